theorem dX8_addCall_25 : decode cX8_addCall 25 = .ok (.ifCond .eq 18, 3) := by decide +kernel
theorem dX8_addCall_28 : decode cX8_addCall 28 = .ok (.aload_n 0, 1) := by decide +kernel
theorem dX8_addCall_29 : decode cX8_addCall 29 = .ok (.getfield 19, 3) := by decide +kernel
theorem dX8_addCall_32 : decode cX8_addCall 32 = .ok (.getfield 140, 3) := by decide +kernel
theorem dX8_addCall_35 : decode cX8_addCall 35 = .ok (.iload 4, 2) := by decide +kernel
theorem dX8_addCall_37 : decode cX8_addCall 37 = .ok (.invokevirtual 171, 3) := by decide +kernel
theorem dX8_addCall_40 : decode cX8_addCall 40 = .ok (.ifCond .ne 13, 3) := by decide +kernel
theorem dX8_addCall_43 : decode cX8_addCall 43 = .ok (.new 94, 3) := by decide +kernel
theorem dX8_addCall_46 : decode cX8_addCall 46 = .ok (.dup, 1) := by decide +kernel
theorem dX8_addCall_47 : decode cX8_addCall 47 = .ok (.ldc 160, 2) := by decide +kernel
theorem dX8_addCall_49 : decode cX8_addCall 49 = .ok (.invokespecial 98, 3) := by decide +kernel
theorem dX8_addCall_52 : decode cX8_addCall 52 = .ok (.athrow, 1) := by decide +kernel
theorem dX8_addCall_53 : decode cX8_addCall 53 = .ok (.iload_n 2, 1) := by decide +kernel
theorem dX8_addCall_54 : decode cX8_addCall 54 = .ok (.invokestatic 108, 3) := by decide +kernel
theorem dX8_addCall_57 : decode cX8_addCall 57 = .ok (.ifCond .eq 45, 3) := by decide +kernel
theorem dX8_addCall_60 : decode cX8_addCall 60 = .ok (.iload_n 3, 1) := by decide +kernel
theorem dX8_addCall_61 : decode cX8_addCall 61 = .ok (.iconst (-1), 1) := by decide +kernel
theorem dX8_addCall_62 : decode cX8_addCall 62 = .ok (.if_icmp .ne 9, 3) := by decide +kernel
theorem dX8_addCall_65 : decode cX8_addCall 65 = .ok (.iload 4, 2) := by decide +kernel
theorem dX8_addCall_67 : decode cX8_addCall 67 = .ok (.iconst (-1), 1) := by decide +kernel
theorem dX8_addCall_68 : decode cX8_addCall 68 = .ok (.if_icmp .ne 34, 3) := by decide +kernel
theorem dX8_addCall_71 : decode cX8_addCall 71 = .ok (.aload_n 0, 1) := by decide +kernel
theorem dX8_addCall_72 : decode cX8_addCall 72 = .ok (.getfield 19, 3) := by decide +kernel
theorem dX8_addCall_75 : decode cX8_addCall 75 = .ok (.getfield 140, 3) := by decide +kernel
theorem dX8_addCall_78 : decode cX8_addCall 78 = .ok (.iload_n 1, 1) := by decide +kernel
theorem dX8_addCall_79 : decode cX8_addCall 79 = .ok (.iload_n 3, 1) := by decide +kernel
theorem dX8_addCall_80 : decode cX8_addCall 80 = .ok (.invokevirtual 174, 3) := by decide +kernel
theorem dX8_addCall_83 : decode cX8_addCall 83 = .ok (.ifCond .eq 19, 3) := by decide +kernel
theorem dX8_addCall_86 : decode cX8_addCall 86 = .ok (.aload_n 0, 1) := by decide +kernel
theorem dX8_addCall_87 : decode cX8_addCall 87 = .ok (.getfield 19, 3) := by decide +kernel
theorem dX8_addCall_90 : decode cX8_addCall 90 = .ok (.getfield 140, 3) := by decide +kernel
theorem dX8_addCall_93 : decode cX8_addCall 93 = .ok (.iload_n 1, 1) := by decide +kernel
theorem dX8_addCall_94 : decode cX8_addCall 94 = .ok (.iload 4, 2) := by decide +kernel
theorem dX8_addCall_96 : decode cX8_addCall 96 = .ok (.invokevirtual 174, 3) := by decide +kernel
theorem dX8_addCall_99 : decode cX8_addCall 99 = .ok (.ifCond .ne 13, 3) := by decide +kernel
theorem dX8_addCall_102 : decode cX8_addCall 102 = .ok (.new 45, 3) := by decide +kernel
theorem dX8_addCall_105 : decode cX8_addCall 105 = .ok (.dup, 1) := by decide +kernel
theorem dX8_addCall_106 : decode cX8_addCall 106 = .ok (.ldc 177, 2) := by decide +kernel
theorem dX8_addCall_108 : decode cX8_addCall 108 = .ok (.invokespecial 49, 3) := by decide +kernel
theorem dX8_addCall_111 : decode cX8_addCall 111 = .ok (.athrow, 1) := by decide +kernel
theorem dX8_addCall_112 : decode cX8_addCall 112 = .ok (.aload_n 0, 1) := by decide +kernel
theorem dX8_addCall_113 : decode cX8_addCall 113 = .ok (.getfield 19, 3) := by decide +kernel
theorem dX8_addCall_116 : decode cX8_addCall 116 = .ok (.getfield 140, 3) := by decide +kernel
theorem dX8_addCall_119 : decode cX8_addCall 119 = .ok (.invokevirtual 144, 3) := by decide +kernel
theorem dX8_addCall_122 : decode cX8_addCall 122 = .ok (.bipush 50, 2) := by decide +kernel
theorem dX8_addCall_124 : decode cX8_addCall 124 = .ok (.if_icmp .lt 13, 3) := by decide +kernel
theorem dX8_addCall_127 : decode cX8_addCall 127 = .ok (.new 56, 3) := by decide +kernel
theorem dX8_addCall_130 : decode cX8_addCall 130 = .ok (.dup, 1) := by decide +kernel
theorem dX8_addCall_131 : decode cX8_addCall 131 = .ok (.ldc 147, 2) := by decide +kernel
theorem dX8_addCall_133 : decode cX8_addCall 133 = .ok (.invokespecial 60, 3) := by decide +kernel
theorem dX8_addCall_136 : decode cX8_addCall 136 = .ok (.athrow, 1) := by decide +kernel
theorem dX8_addCall_137 : decode cX8_addCall 137 = .ok (.aload_n 0, 1) := by decide +kernel
theorem dX8_addCall_138 : decode cX8_addCall 138 = .ok (.getfield 19, 3) := by decide +kernel
theorem dX8_addCall_141 : decode cX8_addCall 141 = .ok (.getfield 140, 3) := by decide +kernel
theorem dX8_addCall_144 : decode cX8_addCall 144 = .ok (.iconst 5, 1) := by decide +kernel
theorem dX8_addCall_145 : decode cX8_addCall 145 = .ok (.aload_n 0, 1) := by decide +kernel
theorem dX8_addCall_146 : decode cX8_addCall 146 = .ok (.getfield 19, 3) := by decide +kernel
theorem dX8_addCall_149 : decode cX8_addCall 149 = .ok (.getfield 140, 3) := by decide +kernel
theorem dX8_addCall_152 : decode cX8_addCall 152 = .ok (.iload_n 1, 1) := by decide +kernel
theorem dX8_addCall_153 : decode cX8_addCall 153 = .ok (.invokevirtual 164, 3) := by decide +kernel
theorem dX8_addCall_156 : decode cX8_addCall 156 = .ok (.iload_n 2, 1) := by decide +kernel
theorem dX8_addCall_157 : decode cX8_addCall 157 = .ok (.invokevirtual 149, 3) := by decide +kernel
theorem dX8_addCall_160 : decode cX8_addCall 160 = .ok (.istore 5, 2) := by decide +kernel
theorem dX8_addCall_162 : decode cX8_addCall 162 = .ok (.aload_n 0, 1) := by decide +kernel
theorem dX8_addCall_163 : decode cX8_addCall 163 = .ok (.getfield 19, 3) := by decide +kernel
theorem dX8_addCall_166 : decode cX8_addCall 166 = .ok (.getfield 140, 3) := by decide +kernel
theorem dX8_addCall_169 : decode cX8_addCall 169 = .ok (.iload 5, 2) := by decide +kernel
theorem dX8_addCall_171 : decode cX8_addCall 171 = .ok (.iload_n 1, 1) := by decide +kernel
theorem dX8_addCall_172 : decode cX8_addCall 172 = .ok (.iload_n 3, 1) := by decide +kernel
theorem dX8_addCall_173 : decode cX8_addCall 173 = .ok (.iload 4, 2) := by decide +kernel
theorem dX8_addCall_175 : decode cX8_addCall 175 = .ok (.invokevirtual 168, 3) := by decide +kernel
theorem dX8_addCall_178 : decode cX8_addCall 178 = .ok (.iload 5, 2) := by decide +kernel
theorem dX8_addCall_180 : decode cX8_addCall 180 = .ok (.ireturn, 1) := by decide +kernel
set_option maxRecDepth 20000 in
theorem ggX8_addResult_X1_has : GoodIn wsX8_addResult wsX1_has := goodIn_r _ [14, 15, 65, 66, 67, 68, 69, 70, 71] (by decide +kernel) (by decide +kernel)
set_option maxRecDepth 20000 in
theorem gX8_addResult_X1_has : GoodIn wsX8_addResult (wsV RX8 159 RX1 yX1_has wsX1_has) := goodIn_app (goodIn_of _ (by decide +kernel)) ggX8_addResult_X1_has
set_option maxRecDepth 20000 in
theorem ggX8_addResult_X8_isCondition : GoodIn wsX8_addResult wsX8_isCondition := goodIn_r _ [19] (by decide +kernel) (by decide +kernel)
set_option maxRecDepth 20000 in
theorem gX8_addResult_X8_isCondition : GoodIn wsX8_addResult (va_wsS RX8 73 yX8_isCondition wsX8_isCondition) := goodIn_app (goodIn_of _ (by decide +kernel)) ggX8_addResult_X8_isCondition
set_option maxRecDepth 20000 in
theorem ggX8_addResult_X0_size : GoodIn wsX8_addResult wsX0_size := goodIn_r _ [24, 25, 72, 73, 74, 75] (by decide +kernel) (by decide +kernel)
set_option maxRecDepth 20000 in
theorem gX8_addResult_X0_size : GoodIn wsX8_addResult (wsV RX8 83 RX0 yX0_size wsX0_size) := goodIn_app (goodIn_of _ (by decide +kernel)) ggX8_addResult_X0_size
set_option maxRecDepth 20000 in
theorem ggX8_addResult_X4_appendResult : GoodIn wsX8_addResult wsX4_appendResult := goodIn_r _ [30, 31, 32, 33, 34, 35, 23, 36, 25, 37, 38, 39, 40, 41, 42, 43, 44, 45, 46, 47, 48, 49, 50, 18, 51, 52, 57, 58, 59, 60, 61, 62, 63, 64, 72, 73, 74, 75, 76] (by decide +kernel) (by decide +kernel)
set_option maxRecDepth 20000 in
theorem gX8_addResult_X4_appendResult : GoodIn wsX8_addResult (wsV RX8 184 RX4 yX4_appendResult wsX4_appendResult) := goodIn_app (goodIn_of _ (by decide +kernel)) ggX8_addResult_X4_appendResult
theorem dX8_addResult_0 : decode cX8_addResult 0 = .ok (.aload_n 0, 1) := by decide +kernel
theorem dX8_addResult_1 : decode cX8_addResult 1 = .ok (.getfield 19, 3) := by decide +kernel
theorem dX8_addResult_4 : decode cX8_addResult 4 = .ok (.getfield 140, 3) := by decide +kernel
theorem dX8_addResult_7 : decode cX8_addResult 7 = .ok (.iload_n 1, 1) := by decide +kernel
theorem dX8_addResult_8 : decode cX8_addResult 8 = .ok (.invokevirtual 159, 3) := by decide +kernel
theorem dX8_addResult_11 : decode cX8_addResult 11 = .ok (.ifCond .ne 13, 3) := by decide +kernel
theorem dX8_addResult_14 : decode cX8_addResult 14 = .ok (.new 94, 3) := by decide +kernel
theorem dX8_addResult_17 : decode cX8_addResult 17 = .ok (.dup, 1) := by decide +kernel
theorem dX8_addResult_18 : decode cX8_addResult 18 = .ok (.ldc 160, 2) := by decide +kernel
theorem dX8_addResult_20 : decode cX8_addResult 20 = .ok (.invokespecial 98, 3) := by decide +kernel
theorem dX8_addResult_23 : decode cX8_addResult 23 = .ok (.athrow, 1) := by decide +kernel
theorem dX8_addResult_24 : decode cX8_addResult 24 = .ok (.iload_n 2, 1) := by decide +kernel
theorem dX8_addResult_25 : decode cX8_addResult 25 = .ok (.iload_n 3, 1) := by decide +kernel
theorem dX8_addResult_26 : decode cX8_addResult 26 = .ok (.invokestatic 73, 3) := by decide +kernel
theorem dX8_addResult_29 : decode cX8_addResult 29 = .ok (.ifCond .ne 13, 3) := by decide +kernel
theorem dX8_addResult_32 : decode cX8_addResult 32 = .ok (.new 45, 3) := by decide +kernel
theorem dX8_addResult_35 : decode cX8_addResult 35 = .ok (.dup, 1) := by decide +kernel
theorem dX8_addResult_36 : decode cX8_addResult 36 = .ok (.ldc 77, 2) := by decide +kernel
theorem dX8_addResult_38 : decode cX8_addResult 38 = .ok (.invokespecial 49, 3) := by decide +kernel
theorem dX8_addResult_41 : decode cX8_addResult 41 = .ok (.athrow, 1) := by decide +kernel
theorem dX8_addResult_42 : decode cX8_addResult 42 = .ok (.aload_n 0, 1) := by decide +kernel
theorem dX8_addResult_43 : decode cX8_addResult 43 = .ok (.getfield 19, 3) := by decide +kernel
theorem dX8_addResult_46 : decode cX8_addResult 46 = .ok (.getfield 179, 3) := by decide +kernel
theorem dX8_addResult_49 : decode cX8_addResult 49 = .ok (.invokevirtual 83, 3) := by decide +kernel
theorem dX8_addResult_52 : decode cX8_addResult 52 = .ok (.bipush 16, 2) := by decide +kernel
theorem dX8_addResult_54 : decode cX8_addResult 54 = .ok (.if_icmp .lt 13, 3) := by decide +kernel
theorem dX8_addResult_57 : decode cX8_addResult 57 = .ok (.new 56, 3) := by decide +kernel
theorem dX8_addResult_60 : decode cX8_addResult 60 = .ok (.dup, 1) := by decide +kernel
theorem dX8_addResult_61 : decode cX8_addResult 61 = .ok (.ldc 182, 2) := by decide +kernel
theorem dX8_addResult_63 : decode cX8_addResult 63 = .ok (.invokespecial 60, 3) := by decide +kernel
theorem dX8_addResult_66 : decode cX8_addResult 66 = .ok (.athrow, 1) := by decide +kernel
theorem dX8_addResult_67 : decode cX8_addResult 67 = .ok (.aload_n 0, 1) := by decide +kernel
theorem dX8_addResult_68 : decode cX8_addResult 68 = .ok (.getfield 19, 3) := by decide +kernel
theorem dX8_addResult_71 : decode cX8_addResult 71 = .ok (.iload_n 1, 1) := by decide +kernel
theorem dX8_addResult_72 : decode cX8_addResult 72 = .ok (.iload_n 2, 1) := by decide +kernel
theorem dX8_addResult_73 : decode cX8_addResult 73 = .ok (.iload_n 3, 1) := by decide +kernel
theorem dX8_addResult_74 : decode cX8_addResult 74 = .ok (.invokevirtual 184, 3) := by decide +kernel
theorem dX8_addResult_77 : decode cX8_addResult 77 = .ok (.ireturn, 1) := by decide +kernel
set_option maxRecDepth 20000 in
theorem ggX8_count_X4_size : GoodIn wsX8_count wsX4_size := goodIn_r _ [8, 9, 10, 11, 12, 13, 14, 15, 16, 17, 18, 7, 19, 20, 21, 22, 23, 24, 25, 26, 27, 28, 29, 30, 35, 36, 37, 38, 39, 40, 41, 42, 43, 44, 45, 46, 47, 48, 49, 50, 51, 52, 53, 54, 55, 56, 57, 58, 59, 60] (by decide +kernel) (by decide +kernel)
set_option maxRecDepth 20000 in
theorem gX8_count_X4_size : GoodIn wsX8_count (wsV RX8 205 RX4 yX4_size wsX4_size) := goodIn_app (goodIn_of _ (by decide +kernel)) ggX8_count_X4_size
theorem dX8_count_0 : decode cX8_count 0 = .ok (.iload_n 1, 1) := by decide +kernel
theorem dX8_count_1 : decode cX8_count 1 = .ok (.ifCond .lt 8, 3) := by decide +kernel
theorem dX8_count_4 : decode cX8_count 4 = .ok (.iload_n 1, 1) := by decide +kernel
theorem dX8_count_5 : decode cX8_count 5 = .ok (.iconst 4, 1) := by decide +kernel
theorem dX8_count_6 : decode cX8_count 6 = .ok (.if_icmp .le 13, 3) := by decide +kernel
theorem dX8_count_9 : decode cX8_count 9 = .ok (.new 94, 3) := by decide +kernel
theorem dX8_count_12 : decode cX8_count 12 = .ok (.dup, 1) := by decide +kernel
theorem dX8_count_13 : decode cX8_count 13 = .ok (.ldc 203, 2) := by decide +kernel
theorem dX8_count_15 : decode cX8_count 15 = .ok (.invokespecial 98, 3) := by decide +kernel
theorem dX8_count_18 : decode cX8_count 18 = .ok (.athrow, 1) := by decide +kernel
theorem dX8_count_19 : decode cX8_count 19 = .ok (.aload_n 0, 1) := by decide +kernel
theorem dX8_count_20 : decode cX8_count 20 = .ok (.getfield 19, 3) := by decide +kernel
theorem dX8_count_23 : decode cX8_count 23 = .ok (.iload_n 1, 1) := by decide +kernel
theorem dX8_count_24 : decode cX8_count 24 = .ok (.invokevirtual 205, 3) := by decide +kernel
theorem dX8_count_27 : decode cX8_count 27 = .ok (.ireturn, 1) := by decide +kernel
set_option maxRecDepth 20000 in
theorem ggX8_typeOf_X1_has : GoodIn wsX8_typeOf wsX1_has := goodIn_r _ [12, 13, 267, 268, 269, 270, 271, 272, 273] (by decide +kernel) (by decide +kernel)
set_option maxRecDepth 20000 in
theorem gX8_typeOf_X1_has : GoodIn wsX8_typeOf (wsV RX8 159 RX1 yX1_has wsX1_has) := goodIn_app (goodIn_of _ (by decide +kernel)) ggX8_typeOf_X1_has
set_option maxRecDepth 20000 in
theorem ggX8_typeOf_X8_isProduct : GoodIn wsX8_typeOf wsX8_isProduct := goodIn_r _ [18, 19, 20, 21, 22, 23, 24, 25, 26, 27, 28, 29, 30, 31, 32, 33, 34, 35, 36, 37, 38, 39, 17, 40, 41, 255, 256, 257, 258, 274, 275, 276, 277, 278] (by decide +kernel) (by decide +kernel)
set_option maxRecDepth 20000 in
theorem gX8_typeOf_X8_isProduct : GoodIn wsX8_typeOf (wsV RX8 213 RX8 yX8_isProduct wsX8_isProduct) := goodIn_app (goodIn_of _ (by decide +kernel)) ggX8_typeOf_X8_isProduct
set_option maxRecDepth 20000 in
theorem ggX8_typeOf_X7_look : GoodIn wsX8_typeOf wsX7_look := goodIn_r _ [46, 47, 48, 49, 50, 45, 51, 52, 53, 54, 55, 56, 57, 58, 59, 60, 61, 62, 11, 63, 13, 64, 65, 66, 67, 68, 69, 70, 71, 72, 73, 74, 75, 76, 77, 78, 79, 80, 81, 82, 83, 84, 85, 86, 87, 88, 89, 90, 34, 35, 36, 37, 38, 91, 92, 93, 94, 95, 96, 97, 98, 99, 100, 101, 102, 103, 104, 105, 106, 107, 108, 109, 39, 17, 40, 110, 111, 112, 113, 114, 115, 116, 117, 118, 119, 120, 121, 122, 123, 124, 125, 126, 127, 128, 129, 130, 131, 132, 133, 134, 135, 136, 137, 138, 139, 140, 141, 142, 143, 144, 145, 146, 147, 148, 149, 150, 151, 152, 153, 154, 155, 156, 157, 158, 159, 160, 161, 162, 279, 280, 281, 282, 283, 284, 285, 286, 259, 260, 261, 262, 263, 264, 265, 266, 267, 268, 269, 270, 271, 272, 273, 287, 288, 289, 290, 291, 292, 293, 294, 295, 296, 297, 278] (by decide +kernel) (by decide +kernel)
set_option maxRecDepth 20000 in
theorem gX8_typeOf_X7_look : GoodIn wsX8_typeOf (wsV RX8 218 RX7 yX7_look wsX7_look) := goodIn_app (goodIn_of _ (by decide +kernel)) ggX8_typeOf_X7_look
set_option maxRecDepth 20000 in
theorem ggX8_typeOf_X7_giveTypes : GoodIn wsX8_typeOf wsX7_giveTypes := goodIn_r _ [166, 52, 167, 168, 169, 47, 170, 61, 62, 11, 63, 13, 171, 105, 106, 107, 108, 109, 34, 35, 36, 37, 38, 127, 128, 129, 45, 130, 53, 131, 39, 17, 40, 172, 173, 174, 175, 176, 177, 178, 179, 180, 181, 182, 183, 184, 185, 186, 187, 188, 189, 190, 191, 192, 193, 194, 195, 196, 197, 198, 199, 200, 201, 202, 203, 204, 205, 206, 207, 208, 209, 210, 211, 212, 213, 214, 215, 216, 217, 218, 219, 220, 221, 222, 223, 141, 118, 160, 161, 162, 224, 225, 226, 227, 142, 228, 229, 230, 95, 231, 232, 233, 98, 234, 235, 236, 237, 238, 239, 240, 241, 136, 242, 243, 244, 245, 149, 93, 94, 96, 97, 246, 247, 248, 249, 250, 110, 111, 112, 113, 279, 280, 281, 282, 283, 284, 285, 286, 259, 260, 261, 262, 263, 264, 265, 266, 267, 268, 269, 270, 271, 272, 273, 278, 287, 288, 289, 290, 291, 292, 293] (by decide +kernel) (by decide +kernel)
set_option maxRecDepth 20000 in
theorem gX8_typeOf_X7_giveTypes : GoodIn wsX8_typeOf (wsV RX8 233 RX7 yX7_giveTypes wsX7_giveTypes) := goodIn_app (goodIn_of _ (by decide +kernel)) ggX8_typeOf_X7_giveTypes
set_option maxRecDepth 20000 in
theorem ggX8_typeOf_X7_typeIn : GoodIn wsX8_typeOf wsX7_typeIn := goodIn_r _ [254, 169, 189, 190, 45, 191, 131, 34, 35, 36, 37, 38, 279, 280, 281, 282, 283, 284, 285, 286, 278] (by decide +kernel) (by decide +kernel)
set_option maxRecDepth 20000 in
theorem gX8_typeOf_X7_typeIn : GoodIn wsX8_typeOf (wsV RX8 236 RX7 yX7_typeIn wsX7_typeIn) := goodIn_app (goodIn_of _ (by decide +kernel)) ggX8_typeOf_X7_typeIn
theorem dX8_typeOf_0 : decode cX8_typeOf 0 = .ok (.aload_n 0, 1) := by decide +kernel
theorem dX8_typeOf_1 : decode cX8_typeOf 1 = .ok (.getfield 19, 3) := by decide +kernel
theorem dX8_typeOf_4 : decode cX8_typeOf 4 = .ok (.getfield 140, 3) := by decide +kernel
theorem dX8_typeOf_7 : decode cX8_typeOf 7 = .ok (.iload_n 1, 1) := by decide +kernel
theorem dX8_typeOf_8 : decode cX8_typeOf 8 = .ok (.invokevirtual 159, 3) := by decide +kernel
theorem dX8_typeOf_11 : decode cX8_typeOf 11 = .ok (.ifCond .ne 13, 3) := by decide +kernel
theorem dX8_typeOf_14 : decode cX8_typeOf 14 = .ok (.new 94, 3) := by decide +kernel
theorem dX8_typeOf_17 : decode cX8_typeOf 17 = .ok (.dup, 1) := by decide +kernel
theorem dX8_typeOf_18 : decode cX8_typeOf 18 = .ok (.ldc 160, 2) := by decide +kernel
theorem dX8_typeOf_20 : decode cX8_typeOf 20 = .ok (.invokespecial 98, 3) := by decide +kernel
theorem dX8_typeOf_23 : decode cX8_typeOf 23 = .ok (.athrow, 1) := by decide +kernel
theorem dX8_typeOf_24 : decode cX8_typeOf 24 = .ok (.aload_n 0, 1) := by decide +kernel
theorem dX8_typeOf_25 : decode cX8_typeOf 25 = .ok (.iload_n 2, 1) := by decide +kernel
theorem dX8_typeOf_26 : decode cX8_typeOf 26 = .ok (.invokevirtual 213, 3) := by decide +kernel
theorem dX8_typeOf_29 : decode cX8_typeOf 29 = .ok (.ifCond .ne 13, 3) := by decide +kernel
theorem dX8_typeOf_32 : decode cX8_typeOf 32 = .ok (.new 45, 3) := by decide +kernel
theorem dX8_typeOf_35 : decode cX8_typeOf 35 = .ok (.dup, 1) := by decide +kernel
theorem dX8_typeOf_36 : decode cX8_typeOf 36 = .ok (.ldc 216, 2) := by decide +kernel
theorem dX8_typeOf_38 : decode cX8_typeOf 38 = .ok (.invokespecial 49, 3) := by decide +kernel
theorem dX8_typeOf_41 : decode cX8_typeOf 41 = .ok (.athrow, 1) := by decide +kernel
theorem dX8_typeOf_42 : decode cX8_typeOf 42 = .ok (.aload_n 0, 1) := by decide +kernel
theorem dX8_typeOf_43 : decode cX8_typeOf 43 = .ok (.getfield 28, 3) := by decide +kernel
theorem dX8_typeOf_46 : decode cX8_typeOf 46 = .ok (.iload_n 2, 1) := by decide +kernel
theorem dX8_typeOf_47 : decode cX8_typeOf 47 = .ok (.invokevirtual 218, 3) := by decide +kernel
theorem dX8_typeOf_50 : decode cX8_typeOf 50 = .ok (.aload_n 0, 1) := by decide +kernel
theorem dX8_typeOf_51 : decode cX8_typeOf 51 = .ok (.getfield 28, 3) := by decide +kernel
theorem dX8_typeOf_54 : decode cX8_typeOf 54 = .ok (.invokevirtual 233, 3) := by decide +kernel
theorem dX8_typeOf_57 : decode cX8_typeOf 57 = .ok (.aload_n 0, 1) := by decide +kernel
theorem dX8_typeOf_58 : decode cX8_typeOf 58 = .ok (.getfield 28, 3) := by decide +kernel
theorem dX8_typeOf_61 : decode cX8_typeOf 61 = .ok (.iload_n 1, 1) := by decide +kernel
theorem dX8_typeOf_62 : decode cX8_typeOf 62 = .ok (.iload_n 2, 1) := by decide +kernel
theorem dX8_typeOf_63 : decode cX8_typeOf 63 = .ok (.invokevirtual 236, 3) := by decide +kernel
theorem dX8_typeOf_66 : decode cX8_typeOf 66 = .ok (.ireturn, 1) := by decide +kernel
set_option maxRecDepth 20000 in
theorem ggX8_errorCount_X8_products : GoodIn wsX8_errorCount wsX8_products := goodIn_r _ [6, 7, 8, 9, 10, 11, 12, 13, 14, 15, 16, 17, 18, 19, 20, 21, 22, 23, 24, 25, 26, 27, 5, 28, 347, 348, 349, 350, 351, 352, 353, 354, 355] (by decide +kernel) (by decide +kernel)
set_option maxRecDepth 20000 in
theorem gX8_errorCount_X8_products : GoodIn wsX8_errorCount (wsV RX8 210 RX8 yX8_products wsX8_products) := goodIn_app (goodIn_of _ (by decide +kernel)) ggX8_errorCount_X8_products
set_option maxRecDepth 20000 in
theorem ggX8_errorCount_X2_inspect : GoodIn wsX8_errorCount wsX2_inspect := goodIn_r _ [33, 34, 35, 36, 37, 38, 24, 39, 26, 27, 5, 28, 40, 41, 42, 43, 44, 45, 46, 47, 48, 49, 50, 51, 52, 53, 54, 55, 56, 57, 58, 59, 60, 61, 62, 63, 64, 65, 66, 67, 68, 69, 70, 71, 72, 73, 74, 75, 76, 77, 78, 79, 80, 81, 82, 83, 84, 85, 86, 87, 88, 89, 90, 22, 23, 25, 91, 92, 93, 94, 95, 96, 97, 98, 99, 100, 101, 102, 103, 104, 105, 106, 107, 108, 109, 110, 111, 112, 113, 114, 115, 116, 117, 118, 119, 120, 121, 122, 123, 124, 125, 126, 127, 128, 129, 130, 131, 132, 133, 134, 135, 136, 137, 138, 139, 140, 141, 142, 143, 144, 145, 146, 147, 148, 149, 150, 151, 152, 153, 154, 155, 156, 157, 158, 159, 160, 161, 162, 163, 164, 165, 166, 167, 168, 169, 170, 171, 172, 173, 174, 175, 176, 177, 178, 179, 180, 181, 182, 183, 184, 185, 186, 187, 188, 189, 190, 191, 192, 193, 194, 195, 196, 197, 198, 199, 200, 201, 202, 203, 204, 205, 206, 207, 208, 209, 210, 211, 212, 213, 214, 215, 216, 217, 218, 219, 220, 221, 222, 223, 224, 225, 226, 227, 228, 229, 230, 231, 232, 233, 234, 235, 236, 237, 238, 239, 240, 241, 242, 243, 244, 245, 246, 247, 248, 249, 250, 32, 251, 252, 253, 254, 255, 256, 257, 258, 259, 260, 261, 262, 263, 264, 265, 266, 267, 268, 269, 270, 271, 272, 273, 274, 275, 276, 277, 278, 279, 280, 281, 282, 283, 284, 285, 286, 287, 288, 289, 290, 291, 292, 293, 294, 295, 296, 297, 298, 299, 300, 301, 302, 303, 304, 305, 306, 307, 308, 309, 310, 311, 312, 313, 314, 315, 316, 317, 318, 319, 320, 321, 322, 323, 324, 325, 326, 327, 328, 329, 330, 331, 332, 333, 334, 335, 336, 337, 338, 339, 340, 341, 342, 356, 357, 358, 359, 360, 355, 361, 362, 363, 364, 365, 366, 367, 368, 369, 370, 371, 372, 373, 374, 375, 376, 377, 378, 379, 380, 381, 382, 383, 384, 385, 386, 387, 388, 389, 390, 391, 392, 393, 394] (by decide +kernel) (by decide +kernel)
set_option maxRecDepth 20000 in
theorem gX8_errorCount_X2_inspect : GoodIn wsX8_errorCount (wsV RX8 239 RX2 yX2_inspect wsX2_inspect) := goodIn_app (goodIn_of _ (by decide +kernel)) ggX8_errorCount_X2_inspect
set_option maxRecDepth 20000 in
theorem ggX8_errorCount_X2_size : GoodIn wsX8_errorCount wsX2_size := goodIn_r _ [346, 341, 356, 357, 358, 359, 360] (by decide +kernel) (by decide +kernel)
set_option maxRecDepth 20000 in
theorem gX8_errorCount_X2_size : GoodIn wsX8_errorCount (wsV RX8 242 RX2 yX2_size wsX2_size) := goodIn_app (goodIn_of _ (by decide +kernel)) ggX8_errorCount_X2_size
theorem dX8_errorCount_0 : decode cX8_errorCount 0 = .ok (.aload_n 0, 1) := by decide +kernel
theorem dX8_errorCount_1 : decode cX8_errorCount 1 = .ok (.getfield 37, 3) := by decide +kernel
theorem dX8_errorCount_4 : decode cX8_errorCount 4 = .ok (.aload_n 0, 1) := by decide +kernel
theorem dX8_errorCount_5 : decode cX8_errorCount 5 = .ok (.invokevirtual 210, 3) := by decide +kernel
theorem dX8_errorCount_8 : decode cX8_errorCount 8 = .ok (.invokevirtual 239, 3) := by decide +kernel
theorem dX8_errorCount_11 : decode cX8_errorCount 11 = .ok (.aload_n 0, 1) := by decide +kernel
theorem dX8_errorCount_12 : decode cX8_errorCount 12 = .ok (.getfield 37, 3) := by decide +kernel
theorem dX8_errorCount_15 : decode cX8_errorCount 15 = .ok (.invokevirtual 242, 3) := by decide +kernel
theorem dX8_errorCount_18 : decode cX8_errorCount 18 = .ok (.ireturn, 1) := by decide +kernel
set_option maxRecDepth 20000 in
theorem ggX8_error_X8_products : GoodIn wsX8_error wsX8_products := goodIn_r _ [8, 9, 10, 11, 12, 13, 14, 15, 16, 17, 18, 19, 20, 21, 22, 23, 24, 25, 26, 27, 28, 29, 7, 30, 361, 362, 363, 364, 365, 366, 367, 368, 369] (by decide +kernel) (by decide +kernel)
set_option maxRecDepth 20000 in
theorem gX8_error_X8_products : GoodIn wsX8_error (wsV RX8 210 RX8 yX8_products wsX8_products) := goodIn_app (goodIn_of _ (by decide +kernel)) ggX8_error_X8_products
set_option maxRecDepth 20000 in
theorem ggX8_error_X2_inspect : GoodIn wsX8_error wsX2_inspect := goodIn_r _ [35, 36, 37, 38, 39, 40, 26, 41, 28, 29, 7, 30, 42, 43, 44, 45, 46, 47, 48, 49, 50, 51, 52, 53, 54, 55, 56, 57, 58, 59, 60, 61, 62, 63, 64, 65, 66, 67, 68, 69, 70, 71, 72, 73, 74, 75, 76, 77, 78, 79, 80, 81, 82, 83, 84, 85, 86, 87, 88, 89, 90, 91, 92, 24, 25, 27, 93, 94, 95, 96, 97, 98, 99, 100, 101, 102, 103, 104, 105, 106, 107, 108, 109, 110, 111, 112, 113, 114, 115, 116, 117, 118, 119, 120, 121, 122, 123, 124, 125, 126, 127, 128, 129, 130, 131, 132, 133, 134, 135, 136, 137, 138, 139, 140, 141, 142, 143, 144, 145, 146, 147, 148, 149, 150, 151, 152, 153, 154, 155, 156, 157, 158, 159, 160, 161, 162, 163, 164, 165, 166, 167, 168, 169, 170, 171, 172, 173, 174, 175, 176, 177, 178, 179, 180, 181, 182, 183, 184, 185, 186, 187, 188, 189, 190, 191, 192, 193, 194, 195, 196, 197, 198, 199, 200, 201, 202, 203, 204, 205, 206, 207, 208, 209, 210, 211, 212, 213, 214, 215, 216, 217, 218, 219, 220, 221, 222, 223, 224, 225, 226, 227, 228, 229, 230, 231, 232, 233, 234, 235, 236, 237, 238, 239, 240, 241, 242, 243, 244, 245, 246, 247, 248, 249, 250, 251, 252, 34, 253, 254, 255, 256, 257, 258, 259, 260, 261, 262, 263, 264, 265, 266, 267, 268, 269, 270, 271, 272, 273, 274, 275, 276, 277, 278, 279, 280, 281, 282, 283, 284, 285, 286, 287, 288, 289, 290, 291, 292, 293, 294, 295, 296, 297, 298, 299, 300, 301, 302, 303, 304, 305, 306, 307, 308, 309, 310, 311, 312, 313, 314, 315, 316, 317, 318, 319, 320, 321, 322, 323, 324, 325, 326, 327, 328, 329, 330, 331, 332, 333, 334, 335, 336, 337, 338, 339, 340, 341, 342, 343, 344, 370, 371, 372, 373, 374, 369, 375, 376, 377, 378, 379, 380, 381, 382, 383, 384, 385, 386, 387, 388, 389, 390, 391, 392, 393, 394, 395, 396, 397, 398, 399, 400, 401, 402, 403, 404, 405, 406, 407, 408] (by decide +kernel) (by decide +kernel)
set_option maxRecDepth 20000 in
theorem gX8_error_X2_inspect : GoodIn wsX8_error (wsV RX8 239 RX2 yX2_inspect wsX2_inspect) := goodIn_app (goodIn_of _ (by decide +kernel)) ggX8_error_X2_inspect
set_option maxRecDepth 20000 in
theorem ggX8_error_X2_size : GoodIn wsX8_error wsX2_size := goodIn_r _ [348, 343, 370, 371, 372, 373, 374] (by decide +kernel) (by decide +kernel)
set_option maxRecDepth 20000 in
theorem gX8_error_X2_size : GoodIn wsX8_error (wsV RX8 242 RX2 yX2_size wsX2_size) := goodIn_app (goodIn_of _ (by decide +kernel)) ggX8_error_X2_size
set_option maxRecDepth 20000 in
theorem ggX8_error_X2_kindOf : GoodIn wsX8_error wsX2_kindOf := goodIn_r _ [352, 344, 265, 24, 25, 26, 27, 28, 370, 371, 372, 373, 374, 369] (by decide +kernel) (by decide +kernel)
set_option maxRecDepth 20000 in
theorem gX8_error_X2_kindOf : GoodIn wsX8_error (wsV RX8 245 RX2 yX2_kindOf wsX2_kindOf) := goodIn_app (goodIn_of _ (by decide +kernel)) ggX8_error_X2_kindOf
set_option maxRecDepth 20000 in
theorem ggX8_error_X2_elementOf : GoodIn wsX8_error wsX2_elementOf := goodIn_r _ [356, 344, 265, 24, 25, 26, 27, 28, 370, 371, 372, 373, 374, 369] (by decide +kernel) (by decide +kernel)
set_option maxRecDepth 20000 in
theorem gX8_error_X2_elementOf : GoodIn wsX8_error (wsV RX8 248 RX2 yX2_elementOf wsX2_elementOf) := goodIn_app (goodIn_of _ (by decide +kernel)) ggX8_error_X2_elementOf
set_option maxRecDepth 20000 in
theorem ggX8_error_X2_productsOf : GoodIn wsX8_error wsX2_productsOf := goodIn_r _ [360, 36, 344, 265, 24, 25, 26, 27, 28, 370, 371, 372, 373, 374, 369] (by decide +kernel) (by decide +kernel)
set_option maxRecDepth 20000 in
theorem gX8_error_X2_productsOf : GoodIn wsX8_error (wsV RX8 251 RX2 yX2_productsOf wsX2_productsOf) := goodIn_app (goodIn_of _ (by decide +kernel)) ggX8_error_X2_productsOf
theorem dX8_error_0 : decode cX8_error 0 = .ok (.aload_n 0, 1) := by decide +kernel
theorem dX8_error_1 : decode cX8_error 1 = .ok (.getfield 37, 3) := by decide +kernel
theorem dX8_error_4 : decode cX8_error 4 = .ok (.aload_n 0, 1) := by decide +kernel
theorem dX8_error_5 : decode cX8_error 5 = .ok (.invokevirtual 210, 3) := by decide +kernel
theorem dX8_error_8 : decode cX8_error 8 = .ok (.invokevirtual 239, 3) := by decide +kernel
theorem dX8_error_11 : decode cX8_error 11 = .ok (.iload_n 1, 1) := by decide +kernel
theorem dX8_error_12 : decode cX8_error 12 = .ok (.ifCond .lt 23, 3) := by decide +kernel
theorem dX8_error_15 : decode cX8_error 15 = .ok (.iload_n 1, 1) := by decide +kernel
theorem dX8_error_16 : decode cX8_error 16 = .ok (.aload_n 0, 1) := by decide +kernel
theorem dX8_error_17 : decode cX8_error 17 = .ok (.getfield 37, 3) := by decide +kernel
theorem dX8_error_20 : decode cX8_error 20 = .ok (.invokevirtual 242, 3) := by decide +kernel
theorem dX8_error_23 : decode cX8_error 23 = .ok (.if_icmp .ge 12, 3) := by decide +kernel
theorem dX8_error_26 : decode cX8_error 26 = .ok (.iload_n 2, 1) := by decide +kernel
theorem dX8_error_27 : decode cX8_error 27 = .ok (.ifCond .lt 8, 3) := by decide +kernel
theorem dX8_error_30 : decode cX8_error 30 = .ok (.iload_n 2, 1) := by decide +kernel
theorem dX8_error_31 : decode cX8_error 31 = .ok (.iconst 2, 1) := by decide +kernel
theorem dX8_error_32 : decode cX8_error 32 = .ok (.if_icmp .le 13, 3) := by decide +kernel
theorem dX8_error_35 : decode cX8_error 35 = .ok (.new 94, 3) := by decide +kernel
theorem dX8_error_38 : decode cX8_error 38 = .ok (.dup, 1) := by decide +kernel
theorem dX8_error_39 : decode cX8_error 39 = .ok (.ldc 243, 2) := by decide +kernel
theorem dX8_error_41 : decode cX8_error 41 = .ok (.invokespecial 98, 3) := by decide +kernel
theorem dX8_error_44 : decode cX8_error 44 = .ok (.athrow, 1) := by decide +kernel
theorem dX8_error_45 : decode cX8_error 45 = .ok (.iload_n 2, 1) := by decide +kernel
theorem dX8_error_46 : decode cX8_error 46 = .ok (.ifCond .ne 14, 3) := by decide +kernel
theorem dX8_error_49 : decode cX8_error 49 = .ok (.aload_n 0, 1) := by decide +kernel
theorem dX8_error_50 : decode cX8_error 50 = .ok (.getfield 37, 3) := by decide +kernel
theorem dX8_error_53 : decode cX8_error 53 = .ok (.iload_n 1, 1) := by decide +kernel
theorem dX8_error_54 : decode cX8_error 54 = .ok (.invokevirtual 245, 3) := by decide +kernel
theorem dX8_error_57 : decode cX8_error 57 = .ok (.goto 27, 3) := by decide +kernel
theorem dX8_error_60 : decode cX8_error 60 = .ok (.iload_n 2, 1) := by decide +kernel
theorem dX8_error_61 : decode cX8_error 61 = .ok (.iconst 1, 1) := by decide +kernel
theorem dX8_error_62 : decode cX8_error 62 = .ok (.if_icmp .ne 14, 3) := by decide +kernel
theorem dX8_error_65 : decode cX8_error 65 = .ok (.aload_n 0, 1) := by decide +kernel
theorem dX8_error_66 : decode cX8_error 66 = .ok (.getfield 37, 3) := by decide +kernel
theorem dX8_error_69 : decode cX8_error 69 = .ok (.iload_n 1, 1) := by decide +kernel
theorem dX8_error_70 : decode cX8_error 70 = .ok (.invokevirtual 248, 3) := by decide +kernel
theorem dX8_error_73 : decode cX8_error 73 = .ok (.goto 11, 3) := by decide +kernel
theorem dX8_error_76 : decode cX8_error 76 = .ok (.aload_n 0, 1) := by decide +kernel
theorem dX8_error_77 : decode cX8_error 77 = .ok (.getfield 37, 3) := by decide +kernel
theorem dX8_error_80 : decode cX8_error 80 = .ok (.iload_n 1, 1) := by decide +kernel
theorem dX8_error_81 : decode cX8_error 81 = .ok (.invokevirtual 251, 3) := by decide +kernel
theorem dX8_error_84 : decode cX8_error 84 = .ok (.ireturn, 1) := by decide +kernel
set_option maxRecDepth 20000 in
theorem ggX8_right_X8_products : GoodIn wsX8_right wsX8_products := goodIn_r _ [6, 7, 8, 9, 10, 11, 12, 13, 14, 15, 16, 17, 18, 19, 20, 21, 22, 23, 24, 25, 26, 27, 5, 28, 351, 352, 353, 354, 355, 356, 357, 358, 359] (by decide +kernel) (by decide +kernel)
set_option maxRecDepth 20000 in
theorem gX8_right_X8_products : GoodIn wsX8_right (wsV RX8 210 RX8 yX8_products wsX8_products) := goodIn_app (goodIn_of _ (by decide +kernel)) ggX8_right_X8_products
set_option maxRecDepth 20000 in
theorem ggX8_right_X2_inspect : GoodIn wsX8_right wsX2_inspect := goodIn_r _ [33, 34, 35, 36, 37, 38, 24, 39, 26, 27, 5, 28, 40, 41, 42, 43, 44, 45, 46, 47, 48, 49, 50, 51, 52, 53, 54, 55, 56, 57, 58, 59, 60, 61, 62, 63, 64, 65, 66, 67, 68, 69, 70, 71, 72, 73, 74, 75, 76, 77, 78, 79, 80, 81, 82, 83, 84, 85, 86, 87, 88, 89, 90, 22, 23, 25, 91, 92, 93, 94, 95, 96, 97, 98, 99, 100, 101, 102, 103, 104, 105, 106, 107, 108, 109, 110, 111, 112, 113, 114, 115, 116, 117, 118, 119, 120, 121, 122, 123, 124, 125, 126, 127, 128, 129, 130, 131, 132, 133, 134, 135, 136, 137, 138, 139, 140, 141, 142, 143, 144, 145, 146, 147, 148, 149, 150, 151, 152, 153, 154, 155, 156, 157, 158, 159, 160, 161, 162, 163, 164, 165, 166, 167, 168, 169, 170, 171, 172, 173, 174, 175, 176, 177, 178, 179, 180, 181, 182, 183, 184, 185, 186, 187, 188, 189, 190, 191, 192, 193, 194, 195, 196, 197, 198, 199, 200, 201, 202, 203, 204, 205, 206, 207, 208, 209, 210, 211, 212, 213, 214, 215, 216, 217, 218, 219, 220, 221, 222, 223, 224, 225, 226, 227, 228, 229, 230, 231, 232, 233, 234, 235, 236, 237, 238, 239, 240, 241, 242, 243, 244, 245, 246, 247, 248, 249, 250, 32, 251, 252, 253, 254, 255, 256, 257, 258, 259, 260, 261, 262, 263, 264, 265, 266, 267, 268, 269, 270, 271, 272, 273, 274, 275, 276, 277, 278, 279, 280, 281, 282, 283, 284, 285, 286, 287, 288, 289, 290, 291, 292, 293, 294, 295, 296, 297, 298, 299, 300, 301, 302, 303, 304, 305, 306, 307, 308, 309, 310, 311, 312, 313, 314, 315, 316, 317, 318, 319, 320, 321, 322, 323, 324, 325, 326, 327, 328, 329, 330, 331, 332, 333, 334, 335, 336, 337, 338, 339, 340, 341, 342, 360, 361, 362, 363, 364, 359, 365, 366, 367, 368, 369, 370, 371, 372, 373, 374, 375, 376, 377, 378, 379, 380, 381, 382, 383, 384, 385, 386, 387, 388, 389, 390, 391, 392, 393, 394, 395, 396, 397, 398] (by decide +kernel) (by decide +kernel)
set_option maxRecDepth 20000 in
theorem gX8_right_X2_inspect : GoodIn wsX8_right (wsV RX8 239 RX2 yX2_inspect wsX2_inspect) := goodIn_app (goodIn_of _ (by decide +kernel)) ggX8_right_X2_inspect
set_option maxRecDepth 20000 in
theorem ggX8_right_X2_wrongProducts : GoodIn wsX8_right wsX2_wrongProducts := goodIn_r _ [346, 341, 347, 348, 349, 32, 350, 34, 342, 263, 22, 23, 24, 25, 26, 360, 361, 362, 363, 364, 359] (by decide +kernel) (by decide +kernel)
set_option maxRecDepth 20000 in
theorem gX8_right_X2_wrongProducts : GoodIn wsX8_right (wsV RX8 254 RX2 yX2_wrongProducts wsX2_wrongProducts) := goodIn_app (goodIn_of _ (by decide +kernel)) ggX8_right_X2_wrongProducts
theorem dX8_right_0 : decode cX8_right 0 = .ok (.aload_n 0, 1) := by decide +kernel
theorem dX8_right_1 : decode cX8_right 1 = .ok (.invokevirtual 210, 3) := by decide +kernel
theorem dX8_right_4 : decode cX8_right 4 = .ok (.istore_n 1, 1) := by decide +kernel
theorem dX8_right_5 : decode cX8_right 5 = .ok (.aload_n 0, 1) := by decide +kernel
theorem dX8_right_6 : decode cX8_right 6 = .ok (.getfield 37, 3) := by decide +kernel
theorem dX8_right_9 : decode cX8_right 9 = .ok (.iload_n 1, 1) := by decide +kernel
theorem dX8_right_10 : decode cX8_right 10 = .ok (.invokevirtual 239, 3) := by decide +kernel
theorem dX8_right_13 : decode cX8_right 13 = .ok (.iload_n 1, 1) := by decide +kernel
theorem dX8_right_14 : decode cX8_right 14 = .ok (.aload_n 0, 1) := by decide +kernel
theorem dX8_right_15 : decode cX8_right 15 = .ok (.getfield 37, 3) := by decide +kernel
theorem dX8_right_18 : decode cX8_right 18 = .ok (.invokevirtual 254, 3) := by decide +kernel
theorem dX8_right_21 : decode cX8_right 21 = .ok (.iconst (-1), 1) := by decide +kernel
theorem dX8_right_22 : decode cX8_right 22 = .ok (.ixor, 1) := by decide +kernel
theorem dX8_right_23 : decode cX8_right 23 = .ok (.iand, 1) := by decide +kernel
theorem dX8_right_24 : decode cX8_right 24 = .ok (.ireturn, 1) := by decide +kernel
set_option maxRecDepth 20000 in
theorem ggX8_errorsIn_X8_isProduct : GoodIn wsX8_errorsIn wsX8_isProduct := goodIn_r _ [8, 9, 10, 11, 12, 13, 14, 15, 16, 17, 18, 19, 20, 21, 22, 23, 24, 25, 26, 27, 28, 29, 7, 30, 31, 358, 359, 360, 361, 362, 363, 364, 365, 366] (by decide +kernel) (by decide +kernel)
set_option maxRecDepth 20000 in
theorem gX8_errorsIn_X8_isProduct : GoodIn wsX8_errorsIn (wsV RX8 213 RX8 yX8_isProduct wsX8_isProduct) := goodIn_app (goodIn_of _ (by decide +kernel)) ggX8_errorsIn_X8_isProduct
set_option maxRecDepth 20000 in
theorem ggX8_errorsIn_X8_products : GoodIn wsX8_errorsIn wsX8_products := goodIn_r _ [35, 9, 10, 11, 12, 13, 14, 15, 16, 17, 18, 19, 20, 21, 22, 23, 24, 25, 26, 27, 28, 29, 7, 30, 358, 359, 360, 361, 362, 363, 364, 365, 366] (by decide +kernel) (by decide +kernel)
set_option maxRecDepth 20000 in
theorem gX8_errorsIn_X8_products : GoodIn wsX8_errorsIn (wsV RX8 210 RX8 yX8_products wsX8_products) := goodIn_app (goodIn_of _ (by decide +kernel)) ggX8_errorsIn_X8_products
set_option maxRecDepth 20000 in
theorem ggX8_errorsIn_X2_inspect : GoodIn wsX8_errorsIn wsX2_inspect := goodIn_r _ [40, 41, 42, 43, 44, 45, 26, 46, 28, 29, 7, 30, 47, 48, 49, 50, 51, 52, 53, 54, 55, 56, 57, 58, 59, 60, 61, 62, 63, 64, 65, 66, 67, 68, 69, 70, 71, 72, 73, 74, 75, 76, 77, 78, 79, 80, 81, 82, 83, 84, 85, 86, 87, 88, 89, 90, 91, 92, 93, 94, 95, 96, 97, 24, 25, 27, 98, 99, 100, 101, 102, 103, 104, 105, 106, 107, 108, 109, 110, 111, 112, 113, 114, 115, 116, 117, 118, 119, 120, 121, 122, 123, 124, 125, 126, 127, 128, 129, 130, 131, 132, 133, 134, 135, 136, 137, 138, 139, 140, 141, 142, 143, 144, 145, 146, 147, 148, 149, 150, 151, 152, 153, 154, 155, 156, 157, 158, 159, 160, 161, 162, 163, 164, 165, 166, 167, 168, 169, 170, 171, 172, 173, 174, 175, 176, 177, 178, 179, 180, 181, 182, 183, 184, 185, 186, 187, 188, 189, 190, 191, 192, 193, 194, 195, 196, 197, 198, 199, 200, 201, 202, 203, 204, 205, 206, 207, 208, 209, 210, 211, 212, 213, 214, 215, 216, 217, 218, 219, 220, 221, 222, 223, 224, 225, 226, 227, 228, 229, 230, 231, 232, 233, 234, 235, 236, 237, 238, 239, 240, 241, 242, 243, 244, 245, 246, 247, 248, 249, 250, 251, 252, 253, 254, 255, 256, 257, 39, 258, 259, 260, 261, 262, 263, 264, 265, 266, 267, 268, 269, 270, 271, 272, 273, 274, 275, 276, 277, 278, 279, 280, 281, 282, 283, 284, 285, 286, 287, 288, 289, 290, 291, 292, 293, 294, 295, 296, 297, 298, 299, 300, 301, 302, 303, 304, 305, 306, 307, 308, 309, 310, 311, 312, 313, 314, 315, 316, 317, 318, 319, 320, 321, 322, 323, 324, 325, 326, 327, 328, 329, 330, 331, 332, 333, 334, 335, 336, 337, 338, 339, 340, 341, 342, 343, 344, 345, 346, 347, 348, 349, 367, 368, 369, 370, 371, 366, 372, 373, 374, 375, 376, 377, 378, 379, 380, 381, 382, 383, 384, 385, 386, 387, 388, 389, 390, 391, 392, 393, 394, 395, 396, 397, 398, 399, 400, 401, 402, 403, 404, 405] (by decide +kernel) (by decide +kernel)
set_option maxRecDepth 20000 in
theorem gX8_errorsIn_X2_inspect : GoodIn wsX8_errorsIn (wsV RX8 239 RX2 yX2_inspect wsX2_inspect) := goodIn_app (goodIn_of _ (by decide +kernel)) ggX8_errorsIn_X2_inspect
set_option maxRecDepth 20000 in
theorem ggX8_errorsIn_X2_sizeIn : GoodIn wsX8_errorsIn wsX2_sizeIn := goodIn_r _ [353, 348, 354, 355, 356, 39, 357, 41, 349, 270, 24, 25, 26, 27, 28, 29, 7, 30, 367, 368, 369, 370, 371, 366] (by decide +kernel) (by decide +kernel)
set_option maxRecDepth 20000 in
theorem gX8_errorsIn_X2_sizeIn : GoodIn wsX8_errorsIn (wsV RX8 257 RX2 yX2_sizeIn wsX2_sizeIn) := goodIn_app (goodIn_of _ (by decide +kernel)) ggX8_errorsIn_X2_sizeIn
theorem dX8_errorsIn_0 : decode cX8_errorsIn 0 = .ok (.aload_n 0, 1) := by decide +kernel
theorem dX8_errorsIn_1 : decode cX8_errorsIn 1 = .ok (.iload_n 1, 1) := by decide +kernel
theorem dX8_errorsIn_2 : decode cX8_errorsIn 2 = .ok (.invokevirtual 213, 3) := by decide +kernel
theorem dX8_errorsIn_5 : decode cX8_errorsIn 5 = .ok (.ifCond .ne 13, 3) := by decide +kernel
theorem dX8_errorsIn_8 : decode cX8_errorsIn 8 = .ok (.new 45, 3) := by decide +kernel
theorem dX8_errorsIn_11 : decode cX8_errorsIn 11 = .ok (.dup, 1) := by decide +kernel
theorem dX8_errorsIn_12 : decode cX8_errorsIn 12 = .ok (.ldc 216, 2) := by decide +kernel
theorem dX8_errorsIn_14 : decode cX8_errorsIn 14 = .ok (.invokespecial 49, 3) := by decide +kernel
theorem dX8_errorsIn_17 : decode cX8_errorsIn 17 = .ok (.athrow, 1) := by decide +kernel
theorem dX8_errorsIn_18 : decode cX8_errorsIn 18 = .ok (.aload_n 0, 1) := by decide +kernel
theorem dX8_errorsIn_19 : decode cX8_errorsIn 19 = .ok (.getfield 37, 3) := by decide +kernel
theorem dX8_errorsIn_22 : decode cX8_errorsIn 22 = .ok (.aload_n 0, 1) := by decide +kernel
theorem dX8_errorsIn_23 : decode cX8_errorsIn 23 = .ok (.invokevirtual 210, 3) := by decide +kernel
theorem dX8_errorsIn_26 : decode cX8_errorsIn 26 = .ok (.invokevirtual 239, 3) := by decide +kernel
theorem dX8_errorsIn_29 : decode cX8_errorsIn 29 = .ok (.aload_n 0, 1) := by decide +kernel
theorem dX8_errorsIn_30 : decode cX8_errorsIn 30 = .ok (.getfield 37, 3) := by decide +kernel
theorem dX8_errorsIn_33 : decode cX8_errorsIn 33 = .ok (.iload_n 1, 1) := by decide +kernel
theorem dX8_errorsIn_34 : decode cX8_errorsIn 34 = .ok (.invokevirtual 257, 3) := by decide +kernel
theorem dX8_errorsIn_37 : decode cX8_errorsIn 37 = .ok (.ireturn, 1) := by decide +kernel
set_option maxRecDepth 20000 in
theorem ggX8_culprit_X8_products : GoodIn wsX8_culprit wsX8_products := goodIn_r _ [6, 7, 8, 9, 10, 11, 12, 13, 14, 15, 16, 17, 18, 19, 20, 21, 22, 23, 24, 25, 26, 27, 5, 28, 361, 362, 363, 364, 365, 366, 367, 368, 369] (by decide +kernel) (by decide +kernel)
set_option maxRecDepth 20000 in
theorem gX8_culprit_X8_products : GoodIn wsX8_culprit (wsV RX8 210 RX8 yX8_products wsX8_products) := goodIn_app (goodIn_of _ (by decide +kernel)) ggX8_culprit_X8_products
set_option maxRecDepth 20000 in
theorem ggX8_culprit_X2_inspect : GoodIn wsX8_culprit wsX2_inspect := goodIn_r _ [33, 34, 35, 36, 37, 38, 24, 39, 26, 27, 5, 28, 40, 41, 42, 43, 44, 45, 46, 47, 48, 49, 50, 51, 52, 53, 54, 55, 56, 57, 58, 59, 60, 61, 62, 63, 64, 65, 66, 67, 68, 69, 70, 71, 72, 73, 74, 75, 76, 77, 78, 79, 80, 81, 82, 83, 84, 85, 86, 87, 88, 89, 90, 22, 23, 25, 91, 92, 93, 94, 95, 96, 97, 98, 99, 100, 101, 102, 103, 104, 105, 106, 107, 108, 109, 110, 111, 112, 113, 114, 115, 116, 117, 118, 119, 120, 121, 122, 123, 124, 125, 126, 127, 128, 129, 130, 131, 132, 133, 134, 135, 136, 137, 138, 139, 140, 141, 142, 143, 144, 145, 146, 147, 148, 149, 150, 151, 152, 153, 154, 155, 156, 157, 158, 159, 160, 161, 162, 163, 164, 165, 166, 167, 168, 169, 170, 171, 172, 173, 174, 175, 176, 177, 178, 179, 180, 181, 182, 183, 184, 185, 186, 187, 188, 189, 190, 191, 192, 193, 194, 195, 196, 197, 198, 199, 200, 201, 202, 203, 204, 205, 206, 207, 208, 209, 210, 211, 212, 213, 214, 215, 216, 217, 218, 219, 220, 221, 222, 223, 224, 225, 226, 227, 228, 229, 230, 231, 232, 233, 234, 235, 236, 237, 238, 239, 240, 241, 242, 243, 244, 245, 246, 247, 248, 249, 250, 32, 251, 252, 253, 254, 255, 256, 257, 258, 259, 260, 261, 262, 263, 264, 265, 266, 267, 268, 269, 270, 271, 272, 273, 274, 275, 276, 277, 278, 279, 280, 281, 282, 283, 284, 285, 286, 287, 288, 289, 290, 291, 292, 293, 294, 295, 296, 297, 298, 299, 300, 301, 302, 303, 304, 305, 306, 307, 308, 309, 310, 311, 312, 313, 314, 315, 316, 317, 318, 319, 320, 321, 322, 323, 324, 325, 326, 327, 328, 329, 330, 331, 332, 333, 334, 335, 336, 337, 338, 339, 340, 341, 342, 370, 371, 372, 373, 374, 369, 375, 376, 377, 378, 379, 380, 381, 382, 383, 384, 385, 386, 387, 388, 389, 390, 391, 392, 393, 394, 395, 396, 397, 398, 399, 400, 401, 402, 403, 404, 405, 406, 407, 408] (by decide +kernel) (by decide +kernel)
set_option maxRecDepth 20000 in
theorem gX8_culprit_X2_inspect : GoodIn wsX8_culprit (wsV RX8 239 RX2 yX2_inspect wsX2_inspect) := goodIn_app (goodIn_of _ (by decide +kernel)) ggX8_culprit_X2_inspect
set_option maxRecDepth 20000 in
theorem ggX8_culprit_X2_wrongProducts : GoodIn wsX8_culprit wsX2_wrongProducts := goodIn_r _ [346, 341, 347, 348, 349, 32, 350, 34, 342, 263, 22, 23, 24, 25, 26, 370, 371, 372, 373, 374, 369] (by decide +kernel) (by decide +kernel)
set_option maxRecDepth 20000 in
theorem gX8_culprit_X2_wrongProducts : GoodIn wsX8_culprit (wsV RX8 254 RX2 yX2_wrongProducts wsX2_wrongProducts) := goodIn_app (goodIn_of _ (by decide +kernel)) ggX8_culprit_X2_wrongProducts
set_option maxRecDepth 20000 in
theorem ggX8_culprit_X8_configurationsWith : GoodIn wsX8_culprit wsX8_configurationsWith := goodIn_r _ [353] (by decide +kernel) (by decide +kernel)
set_option maxRecDepth 20000 in
theorem gX8_culprit_X8_configurationsWith : GoodIn wsX8_culprit (va_wsS RX8 260 yX8_configurationsWith wsX8_configurationsWith) := goodIn_app (goodIn_of _ (by decide +kernel)) ggX8_culprit_X8_configurationsWith
set_option maxRecDepth 20000 in
theorem ggX8_culprit_J6_bitCount_0f7a4 : GoodIn wsX8_culprit wsJ6_bitCount_0f7a4 := goodIn_r _ [357, 358, 359, 360] (by decide +kernel) (by decide +kernel)
set_option maxRecDepth 20000 in
theorem gX8_culprit_J6_bitCount_0f7a4 : GoodIn wsX8_culprit (va_wsS RX8 263 yJ6_bitCount_0f7a4 wsJ6_bitCount_0f7a4) := goodIn_app (goodIn_of _ (by decide +kernel)) ggX8_culprit_J6_bitCount_0f7a4
theorem dX8_culprit_0 : decode cX8_culprit 0 = .ok (.aload_n 0, 1) := by decide +kernel
theorem dX8_culprit_1 : decode cX8_culprit 1 = .ok (.invokevirtual 210, 3) := by decide +kernel
theorem dX8_culprit_4 : decode cX8_culprit 4 = .ok (.istore_n 1, 1) := by decide +kernel
theorem dX8_culprit_5 : decode cX8_culprit 5 = .ok (.aload_n 0, 1) := by decide +kernel
theorem dX8_culprit_6 : decode cX8_culprit 6 = .ok (.getfield 37, 3) := by decide +kernel
theorem dX8_culprit_9 : decode cX8_culprit 9 = .ok (.iload_n 1, 1) := by decide +kernel
theorem dX8_culprit_10 : decode cX8_culprit 10 = .ok (.invokevirtual 239, 3) := by decide +kernel
theorem dX8_culprit_13 : decode cX8_culprit 13 = .ok (.iload_n 1, 1) := by decide +kernel
theorem dX8_culprit_14 : decode cX8_culprit 14 = .ok (.aload_n 0, 1) := by decide +kernel
theorem dX8_culprit_15 : decode cX8_culprit 15 = .ok (.getfield 37, 3) := by decide +kernel
theorem dX8_culprit_18 : decode cX8_culprit 18 = .ok (.invokevirtual 254, 3) := by decide +kernel
theorem dX8_culprit_21 : decode cX8_culprit 21 = .ok (.iconst (-1), 1) := by decide +kernel
theorem dX8_culprit_22 : decode cX8_culprit 22 = .ok (.ixor, 1) := by decide +kernel
theorem dX8_culprit_23 : decode cX8_culprit 23 = .ok (.iand, 1) := by decide +kernel
theorem dX8_culprit_24 : decode cX8_culprit 24 = .ok (.istore_n 2, 1) := by decide +kernel
theorem dX8_culprit_25 : decode cX8_culprit 25 = .ok (.iconst (-1), 1) := by decide +kernel
theorem dX8_culprit_26 : decode cX8_culprit 26 = .ok (.istore_n 3, 1) := by decide +kernel
theorem dX8_culprit_27 : decode cX8_culprit 27 = .ok (.bipush 9, 2) := by decide +kernel
theorem dX8_culprit_29 : decode cX8_culprit 29 = .ok (.istore 4, 2) := by decide +kernel
theorem dX8_culprit_31 : decode cX8_culprit 31 = .ok (.iconst 0, 1) := by decide +kernel
theorem dX8_culprit_32 : decode cX8_culprit 32 = .ok (.istore 5, 2) := by decide +kernel
theorem dX8_culprit_34 : decode cX8_culprit 34 = .ok (.iload 5, 2) := by decide +kernel
theorem dX8_culprit_36 : decode cX8_culprit 36 = .ok (.bipush 16, 2) := by decide +kernel
theorem dX8_culprit_38 : decode cX8_culprit 38 = .ok (.if_icmp .ge 81, 3) := by decide +kernel
theorem dX8_culprit_41 : decode cX8_culprit 41 = .ok (.iconst 0, 1) := by decide +kernel
theorem dX8_culprit_42 : decode cX8_culprit 42 = .ok (.istore 6, 2) := by decide +kernel
theorem dX8_culprit_44 : decode cX8_culprit 44 = .ok (.iload 6, 2) := by decide +kernel
theorem dX8_culprit_46 : decode cX8_culprit 46 = .ok (.bipush 16, 2) := by decide +kernel
theorem dX8_culprit_48 : decode cX8_culprit 48 = .ok (.if_icmp .ge 65, 3) := by decide +kernel
theorem dX8_culprit_51 : decode cX8_culprit 51 = .ok (.iload 5, 2) := by decide +kernel
theorem dX8_culprit_53 : decode cX8_culprit 53 = .ok (.iload 6, 2) := by decide +kernel
theorem dX8_culprit_55 : decode cX8_culprit 55 = .ok (.invokestatic 260, 3) := by decide +kernel
theorem dX8_culprit_58 : decode cX8_culprit 58 = .ok (.iload_n 1, 1) := by decide +kernel
theorem dX8_culprit_59 : decode cX8_culprit 59 = .ok (.iand, 1) := by decide +kernel
theorem dX8_culprit_60 : decode cX8_culprit 60 = .ok (.istore 7, 2) := by decide +kernel
theorem dX8_culprit_62 : decode cX8_culprit 62 = .ok (.iload 5, 2) := by decide +kernel
theorem dX8_culprit_64 : decode cX8_culprit 64 = .ok (.invokestatic 263, 3) := by decide +kernel
theorem dX8_culprit_67 : decode cX8_culprit 67 = .ok (.iload 6, 2) := by decide +kernel
theorem dX8_culprit_69 : decode cX8_culprit 69 = .ok (.invokestatic 263, 3) := by decide +kernel
theorem dX8_culprit_72 : decode cX8_culprit 72 = .ok (.iadd, 1) := by decide +kernel
theorem dX8_culprit_73 : decode cX8_culprit 73 = .ok (.istore 8, 2) := by decide +kernel
theorem dX8_culprit_75 : decode cX8_culprit 75 = .ok (.iload 7, 2) := by decide +kernel
theorem dX8_culprit_77 : decode cX8_culprit 77 = .ok (.ifCond .eq 30, 3) := by decide +kernel
theorem dX8_culprit_80 : decode cX8_culprit 80 = .ok (.iload 7, 2) := by decide +kernel
theorem dX8_culprit_82 : decode cX8_culprit 82 = .ok (.iload_n 2, 1) := by decide +kernel
theorem dX8_culprit_83 : decode cX8_culprit 83 = .ok (.iand, 1) := by decide +kernel
theorem dX8_culprit_84 : decode cX8_culprit 84 = .ok (.ifCond .ne 23, 3) := by decide +kernel
theorem dX8_culprit_87 : decode cX8_culprit 87 = .ok (.iload 8, 2) := by decide +kernel
theorem dX8_culprit_89 : decode cX8_culprit 89 = .ok (.iload 4, 2) := by decide +kernel
theorem dX8_culprit_91 : decode cX8_culprit 91 = .ok (.if_icmp .ge 16, 3) := by decide +kernel
theorem dX8_culprit_94 : decode cX8_culprit 94 = .ok (.bipush 16, 2) := by decide +kernel
theorem dX8_culprit_96 : decode cX8_culprit 96 = .ok (.iload 5, 2) := by decide +kernel
theorem dX8_culprit_98 : decode cX8_culprit 98 = .ok (.imul, 1) := by decide +kernel
theorem dX8_culprit_99 : decode cX8_culprit 99 = .ok (.iload 6, 2) := by decide +kernel
theorem dX8_culprit_101 : decode cX8_culprit 101 = .ok (.iadd, 1) := by decide +kernel
theorem dX8_culprit_102 : decode cX8_culprit 102 = .ok (.istore_n 3, 1) := by decide +kernel
theorem dX8_culprit_103 : decode cX8_culprit 103 = .ok (.iload 8, 2) := by decide +kernel
theorem dX8_culprit_105 : decode cX8_culprit 105 = .ok (.istore 4, 2) := by decide +kernel
theorem dX8_culprit_107 : decode cX8_culprit 107 = .ok (.iinc 6 1, 3) := by decide +kernel
theorem dX8_culprit_110 : decode cX8_culprit 110 = .ok (.goto (-66), 3) := by decide +kernel
theorem dX8_culprit_113 : decode cX8_culprit 113 = .ok (.iinc 5 1, 3) := by decide +kernel
theorem dX8_culprit_116 : decode cX8_culprit 116 = .ok (.goto (-82), 3) := by decide +kernel
theorem dX8_culprit_119 : decode cX8_culprit 119 = .ok (.iload_n 3, 1) := by decide +kernel
theorem dX8_culprit_120 : decode cX8_culprit 120 = .ok (.ireturn, 1) := by decide +kernel
set_option maxRecDepth 20000 in
theorem ggX8_isProduct_X6_allowed : GoodIn wsX8_isProduct wsX6_allowed := goodIn_r _ [6, 7, 8, 9, 5, 10, 11, 12, 13, 14, 15, 16, 17, 18, 19, 20, 21, 22, 23, 29, 30, 31, 32, 33] (by decide +kernel) (by decide +kernel)
set_option maxRecDepth 20000 in
theorem gX8_isProduct_X6_allowed : GoodIn wsX8_isProduct (wsV RX8 70 RX6 yX6_allowed wsX6_allowed) := goodIn_app (goodIn_of _ (by decide +kernel)) ggX8_isProduct_X6_allowed
set_option maxRecDepth 20000 in
theorem ggX8_isProduct_X8_isIn : GoodIn wsX8_isProduct wsX8_isIn := goodIn_r _ [23] (by decide +kernel) (by decide +kernel)
set_option maxRecDepth 20000 in
theorem gX8_isProduct_X8_isIn : GoodIn wsX8_isProduct (va_wsS RX8 281 yX8_isIn wsX8_isIn) := goodIn_app (goodIn_of _ (by decide +kernel)) ggX8_isProduct_X8_isIn
theorem dX8_isProduct_0 : decode cX8_isProduct 0 = .ok (.aload_n 0, 1) := by decide +kernel
theorem dX8_isProduct_1 : decode cX8_isProduct 1 = .ok (.getfield 10, 3) := by decide +kernel
theorem dX8_isProduct_4 : decode cX8_isProduct 4 = .ok (.invokevirtual 70, 3) := by decide +kernel
theorem dX8_isProduct_7 : decode cX8_isProduct 7 = .ok (.iload_n 1, 1) := by decide +kernel
theorem dX8_isProduct_8 : decode cX8_isProduct 8 = .ok (.invokestatic 281, 3) := by decide +kernel
theorem dX8_isProduct_11 : decode cX8_isProduct 11 = .ok (.ireturn, 1) := by decide +kernel
theorem dX8_isFeature_0 : decode cX8_isFeature 0 = .ok (.iload_n 0, 1) := by decide +kernel
theorem dX8_isFeature_1 : decode cX8_isFeature 1 = .ok (.ifCond .lt 12, 3) := by decide +kernel
theorem dX8_isFeature_4 : decode cX8_isFeature 4 = .ok (.iload_n 0, 1) := by decide +kernel
theorem dX8_isFeature_5 : decode cX8_isFeature 5 = .ok (.iconst 4, 1) := by decide +kernel
theorem dX8_isFeature_6 : decode cX8_isFeature 6 = .ok (.if_icmp .ge 7, 3) := by decide +kernel
theorem dX8_isFeature_9 : decode cX8_isFeature 9 = .ok (.iconst 1, 1) := by decide +kernel
theorem dX8_isFeature_10 : decode cX8_isFeature 10 = .ok (.goto 4, 3) := by decide +kernel
theorem dX8_isFeature_13 : decode cX8_isFeature 13 = .ok (.iconst 0, 1) := by decide +kernel
theorem dX8_isFeature_14 : decode cX8_isFeature 14 = .ok (.ireturn, 1) := by decide +kernel
theorem dX8_isName_0 : decode cX8_isName 0 = .ok (.iload_n 0, 1) := by decide +kernel
theorem dX8_isName_1 : decode cX8_isName 1 = .ok (.ifCond .lt 13, 3) := by decide +kernel
theorem dX8_isName_4 : decode cX8_isName 4 = .ok (.iload_n 0, 1) := by decide +kernel
theorem dX8_isName_5 : decode cX8_isName 5 = .ok (.bipush 10, 2) := by decide +kernel
theorem dX8_isName_7 : decode cX8_isName 7 = .ok (.if_icmp .ge 7, 3) := by decide +kernel
theorem dX8_isName_10 : decode cX8_isName 10 = .ok (.iconst 1, 1) := by decide +kernel
theorem dX8_isName_11 : decode cX8_isName 11 = .ok (.goto 4, 3) := by decide +kernel
theorem dX8_isName_14 : decode cX8_isName 14 = .ok (.iconst 0, 1) := by decide +kernel
theorem dX8_isName_15 : decode cX8_isName 15 = .ok (.ireturn, 1) := by decide +kernel
theorem dX8_isCondition_0 : decode cX8_isCondition 0 = .ok (.iload_n 0, 1) := by decide +kernel
theorem dX8_isCondition_1 : decode cX8_isCondition 1 = .ok (.ifCond .lt 29, 3) := by decide +kernel
theorem dX8_isCondition_4 : decode cX8_isCondition 4 = .ok (.iload_n 0, 1) := by decide +kernel
theorem dX8_isCondition_5 : decode cX8_isCondition 5 = .ok (.bipush 16, 2) := by decide +kernel
theorem dX8_isCondition_7 : decode cX8_isCondition 7 = .ok (.if_icmp .ge 23, 3) := by decide +kernel
theorem dX8_isCondition_10 : decode cX8_isCondition 10 = .ok (.iload_n 1, 1) := by decide +kernel
theorem dX8_isCondition_11 : decode cX8_isCondition 11 = .ok (.ifCond .lt 19, 3) := by decide +kernel
theorem dX8_isCondition_14 : decode cX8_isCondition 14 = .ok (.iload_n 1, 1) := by decide +kernel
theorem dX8_isCondition_15 : decode cX8_isCondition 15 = .ok (.bipush 16, 2) := by decide +kernel
theorem dX8_isCondition_17 : decode cX8_isCondition 17 = .ok (.if_icmp .ge 13, 3) := by decide +kernel
theorem dX8_isCondition_20 : decode cX8_isCondition 20 = .ok (.iload_n 0, 1) := by decide +kernel
theorem dX8_isCondition_21 : decode cX8_isCondition 21 = .ok (.iload_n 1, 1) := by decide +kernel
theorem dX8_isCondition_22 : decode cX8_isCondition 22 = .ok (.iand, 1) := by decide +kernel
theorem dX8_isCondition_23 : decode cX8_isCondition 23 = .ok (.ifCond .ne 7, 3) := by decide +kernel
theorem dX8_isCondition_26 : decode cX8_isCondition 26 = .ok (.iconst 1, 1) := by decide +kernel
theorem dX8_isCondition_27 : decode cX8_isCondition 27 = .ok (.goto 4, 3) := by decide +kernel
theorem dX8_isCondition_30 : decode cX8_isCondition 30 = .ok (.iconst 0, 1) := by decide +kernel
theorem dX8_isCondition_31 : decode cX8_isCondition 31 = .ok (.ireturn, 1) := by decide +kernel
theorem dX8_isIn_0 : decode cX8_isIn 0 = .ok (.iload_n 1, 1) := by decide +kernel
theorem dX8_isIn_1 : decode cX8_isIn 1 = .ok (.ifCond .lt 22, 3) := by decide +kernel
theorem dX8_isIn_4 : decode cX8_isIn 4 = .ok (.iload_n 1, 1) := by decide +kernel
theorem dX8_isIn_5 : decode cX8_isIn 5 = .ok (.bipush 32, 2) := by decide +kernel
theorem dX8_isIn_7 : decode cX8_isIn 7 = .ok (.if_icmp .ge 16, 3) := by decide +kernel
theorem dX8_isIn_10 : decode cX8_isIn 10 = .ok (.iload_n 0, 1) := by decide +kernel
theorem dX8_isIn_11 : decode cX8_isIn 11 = .ok (.iload_n 1, 1) := by decide +kernel
theorem dX8_isIn_12 : decode cX8_isIn 12 = .ok (.ishr, 1) := by decide +kernel
theorem dX8_isIn_13 : decode cX8_isIn 13 = .ok (.iconst 1, 1) := by decide +kernel
theorem dX8_isIn_14 : decode cX8_isIn 14 = .ok (.iand, 1) := by decide +kernel
theorem dX8_isIn_15 : decode cX8_isIn 15 = .ok (.iconst 1, 1) := by decide +kernel
theorem dX8_isIn_16 : decode cX8_isIn 16 = .ok (.if_icmp .ne 7, 3) := by decide +kernel
theorem dX8_isIn_19 : decode cX8_isIn 19 = .ok (.iconst 1, 1) := by decide +kernel
theorem dX8_isIn_20 : decode cX8_isIn 20 = .ok (.goto 4, 3) := by decide +kernel
theorem dX8_isIn_23 : decode cX8_isIn 23 = .ok (.iconst 0, 1) := by decide +kernel
theorem dX8_isIn_24 : decode cX8_isIn 24 = .ok (.ireturn, 1) := by decide +kernel
theorem dX8_configurationsWith_0 : decode cX8_configurationsWith 0 = .ok (.iconst 0, 1) := by decide +kernel
theorem dX8_configurationsWith_1 : decode cX8_configurationsWith 1 = .ok (.istore_n 2, 1) := by decide +kernel
theorem dX8_configurationsWith_2 : decode cX8_configurationsWith 2 = .ok (.iconst 0, 1) := by decide +kernel
theorem dX8_configurationsWith_3 : decode cX8_configurationsWith 3 = .ok (.istore_n 3, 1) := by decide +kernel
theorem dX8_configurationsWith_4 : decode cX8_configurationsWith 4 = .ok (.iload_n 3, 1) := by decide +kernel
theorem dX8_configurationsWith_5 : decode cX8_configurationsWith 5 = .ok (.bipush 16, 2) := by decide +kernel
theorem dX8_configurationsWith_7 : decode cX8_configurationsWith 7 = .ok (.if_icmp .ge 28, 3) := by decide +kernel
theorem dX8_configurationsWith_10 : decode cX8_configurationsWith 10 = .ok (.iload_n 3, 1) := by decide +kernel
theorem dX8_configurationsWith_11 : decode cX8_configurationsWith 11 = .ok (.iload_n 0, 1) := by decide +kernel
theorem dX8_configurationsWith_12 : decode cX8_configurationsWith 12 = .ok (.iand, 1) := by decide +kernel
theorem dX8_configurationsWith_13 : decode cX8_configurationsWith 13 = .ok (.iload_n 0, 1) := by decide +kernel
theorem dX8_configurationsWith_14 : decode cX8_configurationsWith 14 = .ok (.if_icmp .ne 15, 3) := by decide +kernel
theorem dX8_configurationsWith_17 : decode cX8_configurationsWith 17 = .ok (.iload_n 3, 1) := by decide +kernel
theorem dX8_configurationsWith_18 : decode cX8_configurationsWith 18 = .ok (.iload_n 1, 1) := by decide +kernel
theorem dX8_configurationsWith_19 : decode cX8_configurationsWith 19 = .ok (.iand, 1) := by decide +kernel
theorem dX8_configurationsWith_20 : decode cX8_configurationsWith 20 = .ok (.ifCond .ne 9, 3) := by decide +kernel
theorem dX8_configurationsWith_23 : decode cX8_configurationsWith 23 = .ok (.iload_n 2, 1) := by decide +kernel
theorem dX8_configurationsWith_24 : decode cX8_configurationsWith 24 = .ok (.iconst 1, 1) := by decide +kernel
theorem dX8_configurationsWith_25 : decode cX8_configurationsWith 25 = .ok (.iload_n 3, 1) := by decide +kernel
theorem dX8_configurationsWith_26 : decode cX8_configurationsWith 26 = .ok (.ishl, 1) := by decide +kernel
theorem dX8_configurationsWith_27 : decode cX8_configurationsWith 27 = .ok (.ior, 1) := by decide +kernel
theorem dX8_configurationsWith_28 : decode cX8_configurationsWith 28 = .ok (.istore_n 2, 1) := by decide +kernel
theorem dX8_configurationsWith_29 : decode cX8_configurationsWith 29 = .ok (.iinc 3 1, 3) := by decide +kernel
theorem dX8_configurationsWith_32 : decode cX8_configurationsWith 32 = .ok (.goto (-28), 3) := by decide +kernel
theorem dX8_configurationsWith_35 : decode cX8_configurationsWith 35 = .ok (.iload_n 2, 1) := by decide +kernel
theorem dX8_configurationsWith_36 : decode cX8_configurationsWith 36 = .ok (.ireturn, 1) := by decide +kernel
theorem dJ6_bitCount_0f7a4_0 : decode cJ6_bitCount_0f7a4 0 = .ok (.iload_n 0, 1) := by decide +kernel
theorem dJ6_bitCount_0f7a4_1 : decode cJ6_bitCount_0f7a4 1 = .ok (.iload_n 0, 1) := by decide +kernel
theorem dJ6_bitCount_0f7a4_2 : decode cJ6_bitCount_0f7a4 2 = .ok (.iconst 1, 1) := by decide +kernel
theorem dJ6_bitCount_0f7a4_3 : decode cJ6_bitCount_0f7a4 3 = .ok (.iushr, 1) := by decide +kernel
theorem dJ6_bitCount_0f7a4_4 : decode cJ6_bitCount_0f7a4 4 = .ok (.ldc_w 265, 3) := by decide +kernel
theorem dJ6_bitCount_0f7a4_7 : decode cJ6_bitCount_0f7a4 7 = .ok (.iand, 1) := by decide +kernel
theorem dJ6_bitCount_0f7a4_8 : decode cJ6_bitCount_0f7a4 8 = .ok (.isub, 1) := by decide +kernel
theorem dJ6_bitCount_0f7a4_9 : decode cJ6_bitCount_0f7a4 9 = .ok (.istore_n 0, 1) := by decide +kernel
theorem dJ6_bitCount_0f7a4_10 : decode cJ6_bitCount_0f7a4 10 = .ok (.iload_n 0, 1) := by decide +kernel
theorem dJ6_bitCount_0f7a4_11 : decode cJ6_bitCount_0f7a4 11 = .ok (.ldc_w 266, 3) := by decide +kernel
theorem dJ6_bitCount_0f7a4_14 : decode cJ6_bitCount_0f7a4 14 = .ok (.iand, 1) := by decide +kernel
theorem dJ6_bitCount_0f7a4_15 : decode cJ6_bitCount_0f7a4 15 = .ok (.iload_n 0, 1) := by decide +kernel
theorem dJ6_bitCount_0f7a4_16 : decode cJ6_bitCount_0f7a4 16 = .ok (.iconst 2, 1) := by decide +kernel
theorem dJ6_bitCount_0f7a4_17 : decode cJ6_bitCount_0f7a4 17 = .ok (.iushr, 1) := by decide +kernel
theorem dJ6_bitCount_0f7a4_18 : decode cJ6_bitCount_0f7a4 18 = .ok (.ldc_w 266, 3) := by decide +kernel
theorem dJ6_bitCount_0f7a4_21 : decode cJ6_bitCount_0f7a4 21 = .ok (.iand, 1) := by decide +kernel
theorem dJ6_bitCount_0f7a4_22 : decode cJ6_bitCount_0f7a4 22 = .ok (.iadd, 1) := by decide +kernel
theorem dJ6_bitCount_0f7a4_23 : decode cJ6_bitCount_0f7a4 23 = .ok (.istore_n 0, 1) := by decide +kernel
theorem dJ6_bitCount_0f7a4_24 : decode cJ6_bitCount_0f7a4 24 = .ok (.iload_n 0, 1) := by decide +kernel
theorem dJ6_bitCount_0f7a4_25 : decode cJ6_bitCount_0f7a4 25 = .ok (.iload_n 0, 1) := by decide +kernel
theorem dJ6_bitCount_0f7a4_26 : decode cJ6_bitCount_0f7a4 26 = .ok (.iconst 4, 1) := by decide +kernel
theorem dJ6_bitCount_0f7a4_27 : decode cJ6_bitCount_0f7a4 27 = .ok (.iushr, 1) := by decide +kernel
theorem dJ6_bitCount_0f7a4_28 : decode cJ6_bitCount_0f7a4 28 = .ok (.iadd, 1) := by decide +kernel
theorem dJ6_bitCount_0f7a4_29 : decode cJ6_bitCount_0f7a4 29 = .ok (.ldc_w 267, 3) := by decide +kernel
theorem dJ6_bitCount_0f7a4_32 : decode cJ6_bitCount_0f7a4 32 = .ok (.iand, 1) := by decide +kernel
theorem dJ6_bitCount_0f7a4_33 : decode cJ6_bitCount_0f7a4 33 = .ok (.istore_n 0, 1) := by decide +kernel
theorem dJ6_bitCount_0f7a4_34 : decode cJ6_bitCount_0f7a4 34 = .ok (.iload_n 0, 1) := by decide +kernel
theorem dJ6_bitCount_0f7a4_35 : decode cJ6_bitCount_0f7a4 35 = .ok (.iload_n 0, 1) := by decide +kernel
theorem dJ6_bitCount_0f7a4_36 : decode cJ6_bitCount_0f7a4 36 = .ok (.bipush 8, 2) := by decide +kernel
theorem dJ6_bitCount_0f7a4_38 : decode cJ6_bitCount_0f7a4 38 = .ok (.iushr, 1) := by decide +kernel
theorem dJ6_bitCount_0f7a4_39 : decode cJ6_bitCount_0f7a4 39 = .ok (.iadd, 1) := by decide +kernel
theorem dJ6_bitCount_0f7a4_40 : decode cJ6_bitCount_0f7a4 40 = .ok (.istore_n 0, 1) := by decide +kernel
theorem dJ6_bitCount_0f7a4_41 : decode cJ6_bitCount_0f7a4 41 = .ok (.iload_n 0, 1) := by decide +kernel
theorem dJ6_bitCount_0f7a4_42 : decode cJ6_bitCount_0f7a4 42 = .ok (.iload_n 0, 1) := by decide +kernel
theorem dJ6_bitCount_0f7a4_43 : decode cJ6_bitCount_0f7a4 43 = .ok (.bipush 16, 2) := by decide +kernel
theorem dJ6_bitCount_0f7a4_45 : decode cJ6_bitCount_0f7a4 45 = .ok (.iushr, 1) := by decide +kernel
theorem dJ6_bitCount_0f7a4_46 : decode cJ6_bitCount_0f7a4 46 = .ok (.iadd, 1) := by decide +kernel
theorem dJ6_bitCount_0f7a4_47 : decode cJ6_bitCount_0f7a4 47 = .ok (.istore_n 0, 1) := by decide +kernel
theorem dJ6_bitCount_0f7a4_48 : decode cJ6_bitCount_0f7a4 48 = .ok (.iload_n 0, 1) := by decide +kernel
theorem dJ6_bitCount_0f7a4_49 : decode cJ6_bitCount_0f7a4 49 = .ok (.bipush 63, 2) := by decide +kernel
theorem dJ6_bitCount_0f7a4_51 : decode cJ6_bitCount_0f7a4 51 = .ok (.iand, 1) := by decide +kernel
theorem dJ6_bitCount_0f7a4_52 : decode cJ6_bitCount_0f7a4 52 = .ok (.ireturn, 1) := by decide +kernel
theorem dL_below_0 : decode cL_below 0 = .ok (.iload_n 0, 1) := by decide +kernel
theorem dL_below_1 : decode cL_below 1 = .ok (.ldc 7, 2) := by decide +kernel
theorem dL_below_3 : decode cL_below 3 = .ok (.iand, 1) := by decide +kernel
theorem dL_below_4 : decode cL_below 4 = .ok (.iload_n 1, 1) := by decide +kernel
theorem dL_below_5 : decode cL_below 5 = .ok (.irem, 1) := by decide +kernel
theorem dL_below_6 : decode cL_below 6 = .ok (.ireturn, 1) := by decide +kernel
theorem dL_cell_0 : decode cL_cell 0 = .ok (.iload_n 1, 1) := by decide +kernel
theorem dL_cell_1 : decode cL_cell 1 = .ok (.aload_n 0, 1) := by decide +kernel
theorem dL_cell_2 : decode cL_cell 2 = .ok (.arraylength, 1) := by decide +kernel
theorem dL_cell_3 : decode cL_cell 3 = .ok (.if_icmp .ge 9, 3) := by decide +kernel
theorem dL_cell_6 : decode cL_cell 6 = .ok (.aload_n 0, 1) := by decide +kernel
theorem dL_cell_7 : decode cL_cell 7 = .ok (.iload_n 1, 1) := by decide +kernel
theorem dL_cell_8 : decode cL_cell 8 = .ok (.iaload, 1) := by decide +kernel
theorem dL_cell_9 : decode cL_cell 9 = .ok (.goto 9, 3) := by decide +kernel
theorem dL_cell_12 : decode cL_cell 12 = .ok (.ldc 8, 2) := by decide +kernel
theorem dL_cell_14 : decode cL_cell 14 = .ok (.iload_n 1, 1) := by decide +kernel
theorem dL_cell_15 : decode cL_cell 15 = .ok (.iconst 3, 1) := by decide +kernel
theorem dL_cell_16 : decode cL_cell 16 = .ok (.iadd, 1) := by decide +kernel
theorem dL_cell_17 : decode cL_cell 17 = .ok (.imul, 1) := by decide +kernel
theorem dL_cell_18 : decode cL_cell 18 = .ok (.ireturn, 1) := by decide +kernel
set_option maxRecDepth 20000 in
theorem ggL_condition_L_below : GoodIn wsL_condition wsL_below := goodIn_r _ [4, 5] (by decide +kernel) (by decide +kernel)
set_option maxRecDepth 20000 in
theorem gL_condition_L_below : GoodIn wsL_condition (va_wsS RL 9 yL_below wsL_below) := goodIn_app (goodIn_of _ (by decide +kernel)) ggL_condition_L_below
theorem dL_condition_0 : decode cL_condition 0 = .ok (.iload_n 0, 1) := by decide +kernel
theorem dL_condition_1 : decode cL_condition 1 = .ok (.iconst 3, 1) := by decide +kernel
theorem dL_condition_2 : decode cL_condition 2 = .ok (.invokestatic 9, 3) := by decide +kernel
theorem dL_condition_5 : decode cL_condition 5 = .ok (.ifCond .ne 15, 3) := by decide +kernel
theorem dL_condition_8 : decode cL_condition 8 = .ok (.iconst 1, 1) := by decide +kernel
theorem dL_condition_9 : decode cL_condition 9 = .ok (.iload_n 0, 1) := by decide +kernel
theorem dL_condition_10 : decode cL_condition 10 = .ok (.iconst 2, 1) := by decide +kernel
theorem dL_condition_11 : decode cL_condition 11 = .ok (.ishr, 1) := by decide +kernel
theorem dL_condition_12 : decode cL_condition 12 = .ok (.iconst 4, 1) := by decide +kernel
theorem dL_condition_13 : decode cL_condition 13 = .ok (.invokestatic 9, 3) := by decide +kernel
theorem dL_condition_16 : decode cL_condition 16 = .ok (.ishl, 1) := by decide +kernel
theorem dL_condition_17 : decode cL_condition 17 = .ok (.goto 4, 3) := by decide +kernel
theorem dL_condition_20 : decode cL_condition 20 = .ok (.iconst 0, 1) := by decide +kernel
theorem dL_condition_21 : decode cL_condition 21 = .ok (.istore_n 1, 1) := by decide +kernel
theorem dL_condition_22 : decode cL_condition 22 = .ok (.iload_n 0, 1) := by decide +kernel
theorem dL_condition_23 : decode cL_condition 23 = .ok (.iconst 4, 1) := by decide +kernel
theorem dL_condition_24 : decode cL_condition 24 = .ok (.ishr, 1) := by decide +kernel
theorem dL_condition_25 : decode cL_condition 25 = .ok (.iconst 4, 1) := by decide +kernel
theorem dL_condition_26 : decode cL_condition 26 = .ok (.invokestatic 9, 3) := by decide +kernel
theorem dL_condition_29 : decode cL_condition 29 = .ok (.ifCond .ne 16, 3) := by decide +kernel
theorem dL_condition_32 : decode cL_condition 32 = .ok (.iconst 1, 1) := by decide +kernel
theorem dL_condition_33 : decode cL_condition 33 = .ok (.iload_n 0, 1) := by decide +kernel
theorem dL_condition_34 : decode cL_condition 34 = .ok (.bipush 6, 2) := by decide +kernel
theorem dL_condition_36 : decode cL_condition 36 = .ok (.ishr, 1) := by decide +kernel
theorem dL_condition_37 : decode cL_condition 37 = .ok (.iconst 4, 1) := by decide +kernel
theorem dL_condition_38 : decode cL_condition 38 = .ok (.invokestatic 9, 3) := by decide +kernel
theorem dL_condition_41 : decode cL_condition 41 = .ok (.ishl, 1) := by decide +kernel
theorem dL_condition_42 : decode cL_condition 42 = .ok (.goto 4, 3) := by decide +kernel
theorem dL_condition_45 : decode cL_condition 45 = .ok (.iconst 0, 1) := by decide +kernel
theorem dL_condition_46 : decode cL_condition 46 = .ok (.istore_n 2, 1) := by decide +kernel
theorem dL_condition_47 : decode cL_condition 47 = .ok (.bipush 16, 2) := by decide +kernel
theorem dL_condition_49 : decode cL_condition 49 = .ok (.iload_n 1, 1) := by decide +kernel
theorem dL_condition_50 : decode cL_condition 50 = .ok (.imul, 1) := by decide +kernel
theorem dL_condition_51 : decode cL_condition 51 = .ok (.iload_n 1, 1) := by decide +kernel
theorem dL_condition_52 : decode cL_condition 52 = .ok (.iload_n 2, 1) := by decide +kernel
theorem dL_condition_53 : decode cL_condition 53 = .ok (.if_icmp .ne 7, 3) := by decide +kernel
theorem dL_condition_56 : decode cL_condition 56 = .ok (.iconst 0, 1) := by decide +kernel
theorem dL_condition_57 : decode cL_condition 57 = .ok (.goto 4, 3) := by decide +kernel
theorem dL_condition_60 : decode cL_condition 60 = .ok (.iload_n 2, 1) := by decide +kernel
theorem dL_condition_61 : decode cL_condition 61 = .ok (.iadd, 1) := by decide +kernel
theorem dL_condition_62 : decode cL_condition 62 = .ok (.ireturn, 1) := by decide +kernel
set_option maxRecDepth 20000 in
theorem ggL_build_L_cell : GoodIn wsL_build wsL_cell := goodIn_r _ [4, 5] (by decide +kernel) (by decide +kernel)
set_option maxRecDepth 20000 in
theorem gL_build_L_cell : GoodIn wsL_build (va_wsS RL 15 yL_cell wsL_cell) := goodIn_app (goodIn_of _ (by decide +kernel)) ggL_build_L_cell
set_option maxRecDepth 20000 in
theorem ggL_build_L_below : GoodIn wsL_build wsL_below := goodIn_r _ [8, 9] (by decide +kernel) (by decide +kernel)
set_option maxRecDepth 20000 in
theorem gL_build_L_below : GoodIn wsL_build (va_wsS RL 9 yL_below wsL_below) := goodIn_app (goodIn_of _ (by decide +kernel)) ggL_build_L_below
set_option maxRecDepth 20000 in
theorem ggL_build_L_condition : GoodIn wsL_build wsL_condition := goodIn_r _ [44, 6, 7, 3, 8, 9] (by decide +kernel) (by decide +kernel)
set_option maxRecDepth 20000 in
theorem gL_build_L_condition : GoodIn wsL_build (va_wsS RL 25 yL_condition wsL_condition) := goodIn_app (goodIn_of _ (by decide +kernel)) ggL_build_L_condition
theorem dL_build_0 : decode cL_build 0 = .ok (.aload_n 3, 1) := by decide +kernel
theorem dL_build_1 : decode cL_build 1 = .ok (.iconst 0, 1) := by decide +kernel
theorem dL_build_2 : decode cL_build 2 = .ok (.aload_n 1, 1) := by decide +kernel
theorem dL_build_3 : decode cL_build 3 = .ok (.iload_n 2, 1) := by decide +kernel
theorem dL_build_4 : decode cL_build 4 = .ok (.invokestatic 15, 3) := by decide +kernel
theorem dL_build_7 : decode cL_build 7 = .ok (.iconst 4, 1) := by decide +kernel
theorem dL_build_8 : decode cL_build 8 = .ok (.invokestatic 9, 3) := by decide +kernel
theorem dL_build_11 : decode cL_build 11 = .ok (.iastore, 1) := by decide +kernel
theorem dL_build_12 : decode cL_build 12 = .ok (.iconst 0, 1) := by decide +kernel
theorem dL_build_13 : decode cL_build 13 = .ok (.istore 10, 2) := by decide +kernel
theorem dL_build_15 : decode cL_build 15 = .ok (.iload 10, 2) := by decide +kernel
theorem dL_build_17 : decode cL_build 17 = .ok (.aload_n 3, 1) := by decide +kernel
theorem dL_build_18 : decode cL_build 18 = .ok (.iconst 0, 1) := by decide +kernel
theorem dL_build_19 : decode cL_build 19 = .ok (.iaload, 1) := by decide +kernel
theorem dL_build_20 : decode cL_build 20 = .ok (.if_icmp .ge 109, 3) := by decide +kernel
theorem dL_build_23 : decode cL_build 23 = .ok (.aload_n 1, 1) := by decide +kernel
theorem dL_build_24 : decode cL_build 24 = .ok (.iload_n 2, 1) := by decide +kernel
theorem dL_build_25 : decode cL_build 25 = .ok (.invokestatic 15, 3) := by decide +kernel
theorem dL_build_28 : decode cL_build 28 = .ok (.iconst 3, 1) := by decide +kernel
theorem dL_build_29 : decode cL_build 29 = .ok (.bipush 6, 2) := by decide +kernel
theorem dL_build_31 : decode cL_build 31 = .ok (.iload 10, 2) := by decide +kernel
theorem dL_build_33 : decode cL_build 33 = .ok (.imul, 1) := by decide +kernel
theorem dL_build_34 : decode cL_build 34 = .ok (.iadd, 1) := by decide +kernel
theorem dL_build_35 : decode cL_build 35 = .ok (.ishr, 1) := by decide +kernel
theorem dL_build_36 : decode cL_build 36 = .ok (.istore 11, 2) := by decide +kernel
theorem dL_build_38 : decode cL_build 38 = .ok (.aload 4, 2) := by decide +kernel
theorem dL_build_40 : decode cL_build 40 = .ok (.iconst 3, 1) := by decide +kernel
theorem dL_build_41 : decode cL_build 41 = .ok (.iload 10, 2) := by decide +kernel
theorem dL_build_43 : decode cL_build 43 = .ok (.imul, 1) := by decide +kernel
theorem dL_build_44 : decode cL_build 44 = .ok (.iload 11, 2) := by decide +kernel
theorem dL_build_46 : decode cL_build 46 = .ok (.iconst 2, 1) := by decide +kernel
theorem dL_build_47 : decode cL_build 47 = .ok (.invokestatic 9, 3) := by decide +kernel
theorem dL_build_50 : decode cL_build 50 = .ok (.iastore, 1) := by decide +kernel
theorem dL_build_51 : decode cL_build 51 = .ok (.aload 4, 2) := by decide +kernel
theorem dL_build_53 : decode cL_build 53 = .ok (.iconst 3, 1) := by decide +kernel
theorem dL_build_54 : decode cL_build 54 = .ok (.iload 10, 2) := by decide +kernel
theorem dL_build_56 : decode cL_build 56 = .ok (.imul, 1) := by decide +kernel
theorem dL_build_57 : decode cL_build 57 = .ok (.iconst 1, 1) := by decide +kernel
theorem dL_build_58 : decode cL_build 58 = .ok (.iadd, 1) := by decide +kernel
theorem dL_build_59 : decode cL_build 59 = .ok (.iload 11, 2) := by decide +kernel
theorem dL_build_61 : decode cL_build 61 = .ok (.iconst 1, 1) := by decide +kernel
theorem dL_build_62 : decode cL_build 62 = .ok (.ishr, 1) := by decide +kernel
theorem dL_build_63 : decode cL_build 63 = .ok (.iconst 4, 1) := by decide +kernel
theorem dL_build_64 : decode cL_build 64 = .ok (.invokestatic 9, 3) := by decide +kernel
theorem dL_build_67 : decode cL_build 67 = .ok (.iastore, 1) := by decide +kernel
theorem dL_build_68 : decode cL_build 68 = .ok (.aload 4, 2) := by decide +kernel
theorem dL_build_70 : decode cL_build 70 = .ok (.iconst 3, 1) := by decide +kernel
theorem dL_build_71 : decode cL_build 71 = .ok (.iload 10, 2) := by decide +kernel
theorem dL_build_73 : decode cL_build 73 = .ok (.imul, 1) := by decide +kernel
theorem dL_build_74 : decode cL_build 74 = .ok (.iconst 2, 1) := by decide +kernel
theorem dL_build_75 : decode cL_build 75 = .ok (.iadd, 1) := by decide +kernel
theorem dL_build_76 : decode cL_build 76 = .ok (.iload 11, 2) := by decide +kernel
theorem dL_build_78 : decode cL_build 78 = .ok (.iconst 3, 1) := by decide +kernel
theorem dL_build_79 : decode cL_build 79 = .ok (.ishr, 1) := by decide +kernel
theorem dL_build_80 : decode cL_build 80 = .ok (.iconst 4, 1) := by decide +kernel
theorem dL_build_81 : decode cL_build 81 = .ok (.invokestatic 9, 3) := by decide +kernel
theorem dL_build_84 : decode cL_build 84 = .ok (.iastore, 1) := by decide +kernel
theorem dL_build_85 : decode cL_build 85 = .ok (.aload_n 0, 1) := by decide +kernel
theorem dL_build_86 : decode cL_build 86 = .ok (.aload 4, 2) := by decide +kernel
theorem dL_build_88 : decode cL_build 88 = .ok (.iconst 3, 1) := by decide +kernel
theorem dL_build_89 : decode cL_build 89 = .ok (.iload 10, 2) := by decide +kernel
theorem dL_build_91 : decode cL_build 91 = .ok (.imul, 1) := by decide +kernel
theorem dL_build_92 : decode cL_build 92 = .ok (.iaload, 1) := by decide +kernel
theorem dL_build_93 : decode cL_build 93 = .ok (.aload 4, 2) := by decide +kernel
theorem dL_build_95 : decode cL_build 95 = .ok (.iconst 3, 1) := by decide +kernel
theorem dL_build_96 : decode cL_build 96 = .ok (.iload 10, 2) := by decide +kernel
theorem dL_build_98 : decode cL_build 98 = .ok (.imul, 1) := by decide +kernel
theorem dL_build_99 : decode cL_build 99 = .ok (.iconst 1, 1) := by decide +kernel
theorem dL_build_100 : decode cL_build 100 = .ok (.iadd, 1) := by decide +kernel
theorem dL_build_101 : decode cL_build 101 = .ok (.iaload, 1) := by decide +kernel
theorem dL_build_102 : decode cL_build 102 = .ok (.aload 4, 2) := by decide +kernel
theorem dL_build_104 : decode cL_build 104 = .ok (.iconst 3, 1) := by decide +kernel
theorem dL_build_105 : decode cL_build 105 = .ok (.iload 10, 2) := by decide +kernel
theorem dL_build_107 : decode cL_build 107 = .ok (.imul, 1) := by decide +kernel
theorem dL_build_108 : decode cL_build 108 = .ok (.iconst 2, 1) := by decide +kernel
theorem dL_build_109 : decode cL_build 109 = .ok (.iadd, 1) := by decide +kernel
theorem dL_build_110 : decode cL_build 110 = .ok (.iaload, 1) := by decide +kernel
theorem dL_build_111 : decode cL_build 111 = .ok (.invokevirtual 19, 3) := by decide +kernel
theorem dL_build_114 : decode cL_build 114 = .ok (.iload 10, 2) := by decide +kernel
theorem dL_build_116 : decode cL_build 116 = .ok (.iconst 1, 1) := by decide +kernel
theorem dL_build_117 : decode cL_build 117 = .ok (.iadd, 1) := by decide +kernel
theorem dL_build_118 : decode cL_build 118 = .ok (.if_icmp .eq 5, 3) := by decide +kernel
theorem dL_build_121 : decode cL_build 121 = .ok (.iconst 0, 1) := by decide +kernel
theorem dL_build_122 : decode cL_build 122 = .ok (.ireturn, 1) := by decide +kernel
theorem dL_build_123 : decode cL_build 123 = .ok (.iinc 10 1, 3) := by decide +kernel
theorem dL_build_126 : decode cL_build 126 = .ok (.goto (-111), 3) := by decide +kernel
theorem dL_build_129 : decode cL_build 129 = .ok (.aload_n 3, 1) := by decide +kernel
theorem dL_build_130 : decode cL_build 130 = .ok (.iconst 1, 1) := by decide +kernel
theorem dL_build_131 : decode cL_build 131 = .ok (.iconst 1, 1) := by decide +kernel
theorem dL_build_132 : decode cL_build 132 = .ok (.aload_n 1, 1) := by decide +kernel
theorem dL_build_133 : decode cL_build 133 = .ok (.iload_n 2, 1) := by decide +kernel
theorem dL_build_134 : decode cL_build 134 = .ok (.iconst 1, 1) := by decide +kernel
theorem dL_build_135 : decode cL_build 135 = .ok (.iadd, 1) := by decide +kernel
theorem dL_build_136 : decode cL_build 136 = .ok (.invokestatic 15, 3) := by decide +kernel
theorem dL_build_139 : decode cL_build 139 = .ok (.iconst 4, 1) := by decide +kernel
theorem dL_build_140 : decode cL_build 140 = .ok (.invokestatic 9, 3) := by decide +kernel
theorem dL_build_143 : decode cL_build 143 = .ok (.iadd, 1) := by decide +kernel
theorem dL_build_144 : decode cL_build 144 = .ok (.iastore, 1) := by decide +kernel
theorem dL_build_145 : decode cL_build 145 = .ok (.iconst 0, 1) := by decide +kernel
theorem dL_build_146 : decode cL_build 146 = .ok (.istore 10, 2) := by decide +kernel
theorem dL_build_148 : decode cL_build 148 = .ok (.iload 10, 2) := by decide +kernel
theorem dL_build_150 : decode cL_build 150 = .ok (.aload_n 3, 1) := by decide +kernel
theorem dL_build_151 : decode cL_build 151 = .ok (.iconst 1, 1) := by decide +kernel
theorem dL_build_152 : decode cL_build 152 = .ok (.iaload, 1) := by decide +kernel
theorem dL_build_153 : decode cL_build 153 = .ok (.if_icmp .ge 58, 3) := by decide +kernel
theorem dL_build_156 : decode cL_build 156 = .ok (.aload 5, 2) := by decide +kernel
theorem dL_build_158 : decode cL_build 158 = .ok (.iload 10, 2) := by decide +kernel
theorem dL_build_160 : decode cL_build 160 = .ok (.aload_n 1, 1) := by decide +kernel
theorem dL_build_161 : decode cL_build 161 = .ok (.iload_n 2, 1) := by decide +kernel
theorem dL_build_162 : decode cL_build 162 = .ok (.iconst 1, 1) := by decide +kernel
theorem dL_build_163 : decode cL_build 163 = .ok (.iadd, 1) := by decide +kernel
theorem dL_build_164 : decode cL_build 164 = .ok (.invokestatic 15, 3) := by decide +kernel
theorem dL_build_167 : decode cL_build 167 = .ok (.iconst 4, 1) := by decide +kernel
theorem dL_build_168 : decode cL_build 168 = .ok (.iconst 5, 1) := by decide +kernel
theorem dL_build_169 : decode cL_build 169 = .ok (.iload 10, 2) := by decide +kernel
theorem dL_build_171 : decode cL_build 171 = .ok (.imul, 1) := by decide +kernel
theorem dL_build_172 : decode cL_build 172 = .ok (.iadd, 1) := by decide +kernel
theorem dL_build_173 : decode cL_build 173 = .ok (.ishr, 1) := by decide +kernel
theorem dL_build_174 : decode cL_build 174 = .ok (.invokestatic 25, 3) := by decide +kernel
theorem dL_build_177 : decode cL_build 177 = .ok (.iastore, 1) := by decide +kernel
theorem dL_build_178 : decode cL_build 178 = .ok (.aload_n 0, 1) := by decide +kernel
theorem dL_build_179 : decode cL_build 179 = .ok (.aload 5, 2) := by decide +kernel
theorem dL_build_181 : decode cL_build 181 = .ok (.iload 10, 2) := by decide +kernel
theorem dL_build_183 : decode cL_build 183 = .ok (.iaload, 1) := by decide +kernel
theorem dL_build_184 : decode cL_build 184 = .ok (.bipush 16, 2) := by decide +kernel
theorem dL_build_186 : decode cL_build 186 = .ok (.idiv, 1) := by decide +kernel
theorem dL_build_187 : decode cL_build 187 = .ok (.aload 5, 2) := by decide +kernel
theorem dL_build_189 : decode cL_build 189 = .ok (.iload 10, 2) := by decide +kernel
theorem dL_build_191 : decode cL_build 191 = .ok (.iaload, 1) := by decide +kernel
theorem dL_build_192 : decode cL_build 192 = .ok (.bipush 16, 2) := by decide +kernel
theorem dL_build_194 : decode cL_build 194 = .ok (.irem, 1) := by decide +kernel
theorem dL_build_195 : decode cL_build 195 = .ok (.invokevirtual 29, 3) := by decide +kernel
theorem dL_build_198 : decode cL_build 198 = .ok (.iload 10, 2) := by decide +kernel
theorem dL_build_200 : decode cL_build 200 = .ok (.if_icmp .eq 5, 3) := by decide +kernel
theorem dL_build_203 : decode cL_build 203 = .ok (.iconst 0, 1) := by decide +kernel
theorem dL_build_204 : decode cL_build 204 = .ok (.ireturn, 1) := by decide +kernel
theorem dL_build_205 : decode cL_build 205 = .ok (.iinc 10 1, 3) := by decide +kernel
theorem dL_build_208 : decode cL_build 208 = .ok (.goto (-60), 3) := by decide +kernel
theorem dL_build_211 : decode cL_build 211 = .ok (.aload_n 3, 1) := by decide +kernel
theorem dL_build_212 : decode cL_build 212 = .ok (.iconst 2, 1) := by decide +kernel
theorem dL_build_213 : decode cL_build 213 = .ok (.aload_n 1, 1) := by decide +kernel
theorem dL_build_214 : decode cL_build 214 = .ok (.iload_n 2, 1) := by decide +kernel
theorem dL_build_215 : decode cL_build 215 = .ok (.iconst 2, 1) := by decide +kernel
theorem dL_build_216 : decode cL_build 216 = .ok (.iadd, 1) := by decide +kernel
theorem dL_build_217 : decode cL_build 217 = .ok (.invokestatic 15, 3) := by decide +kernel
theorem dL_build_220 : decode cL_build 220 = .ok (.iconst 5, 1) := by decide +kernel
theorem dL_build_221 : decode cL_build 221 = .ok (.invokestatic 9, 3) := by decide +kernel
theorem dL_build_224 : decode cL_build 224 = .ok (.iastore, 1) := by decide +kernel
theorem dL_build_225 : decode cL_build 225 = .ok (.iconst 0, 1) := by decide +kernel
theorem dL_build_226 : decode cL_build 226 = .ok (.istore 10, 2) := by decide +kernel
theorem dL_build_228 : decode cL_build 228 = .ok (.iload 10, 2) := by decide +kernel
theorem dL_build_230 : decode cL_build 230 = .ok (.aload_n 3, 1) := by decide +kernel
theorem dL_build_231 : decode cL_build 231 = .ok (.iconst 2, 1) := by decide +kernel
theorem dL_build_232 : decode cL_build 232 = .ok (.iaload, 1) := by decide +kernel
theorem dL_build_233 : decode cL_build 233 = .ok (.if_icmp .ge 137, 3) := by decide +kernel
theorem dL_build_236 : decode cL_build 236 = .ok (.aload_n 1, 1) := by decide +kernel
theorem dL_build_237 : decode cL_build 237 = .ok (.iload_n 2, 1) := by decide +kernel
theorem dL_build_238 : decode cL_build 238 = .ok (.iconst 2, 1) := by decide +kernel
theorem dL_build_239 : decode cL_build 239 = .ok (.iadd, 1) := by decide +kernel
theorem dL_build_240 : decode cL_build 240 = .ok (.invokestatic 15, 3) := by decide +kernel
theorem dL_build_243 : decode cL_build 243 = .ok (.iconst 3, 1) := by decide +kernel
theorem dL_build_244 : decode cL_build 244 = .ok (.iconst 5, 1) := by decide +kernel
theorem dL_build_245 : decode cL_build 245 = .ok (.iload 10, 2) := by decide +kernel
theorem dL_build_247 : decode cL_build 247 = .ok (.imul, 1) := by decide +kernel
theorem dL_build_248 : decode cL_build 248 = .ok (.iadd, 1) := by decide +kernel
theorem dL_build_249 : decode cL_build 249 = .ok (.ishr, 1) := by decide +kernel
theorem dL_build_250 : decode cL_build 250 = .ok (.aload_n 1, 1) := by decide +kernel
theorem dL_build_251 : decode cL_build 251 = .ok (.iload_n 2, 1) := by decide +kernel
theorem dL_build_252 : decode cL_build 252 = .ok (.iconst 1, 1) := by decide +kernel
theorem dL_build_253 : decode cL_build 253 = .ok (.iadd, 1) := by decide +kernel
theorem dL_build_254 : decode cL_build 254 = .ok (.invokestatic 15, 3) := by decide +kernel
theorem dL_build_257 : decode cL_build 257 = .ok (.iload 10, 2) := by decide +kernel
theorem dL_build_259 : decode cL_build 259 = .ok (.ishr, 1) := by decide +kernel
theorem dL_build_260 : decode cL_build 260 = .ok (.ixor, 1) := by decide +kernel
theorem dL_build_261 : decode cL_build 261 = .ok (.istore 11, 2) := by decide +kernel
theorem dL_build_263 : decode cL_build 263 = .ok (.aload 6, 2) := by decide +kernel
theorem dL_build_265 : decode cL_build 265 = .ok (.iconst 3, 1) := by decide +kernel
theorem dL_build_266 : decode cL_build 266 = .ok (.iload 10, 2) := by decide +kernel
theorem dL_build_268 : decode cL_build 268 = .ok (.imul, 1) := by decide +kernel
theorem dL_build_269 : decode cL_build 269 = .ok (.iload 11, 2) := by decide +kernel
theorem dL_build_271 : decode cL_build 271 = .ok (.aload_n 3, 1) := by decide +kernel
theorem dL_build_272 : decode cL_build 272 = .ok (.iconst 1, 1) := by decide +kernel
theorem dL_build_273 : decode cL_build 273 = .ok (.iaload, 1) := by decide +kernel
theorem dL_build_274 : decode cL_build 274 = .ok (.invokestatic 9, 3) := by decide +kernel
theorem dL_build_277 : decode cL_build 277 = .ok (.iastore, 1) := by decide +kernel
theorem dL_build_278 : decode cL_build 278 = .ok (.aload 6, 2) := by decide +kernel
theorem dL_build_280 : decode cL_build 280 = .ok (.iconst 3, 1) := by decide +kernel
theorem dL_build_281 : decode cL_build 281 = .ok (.iload 10, 2) := by decide +kernel
theorem dL_build_283 : decode cL_build 283 = .ok (.imul, 1) := by decide +kernel
theorem dL_build_284 : decode cL_build 284 = .ok (.iconst 1, 1) := by decide +kernel
theorem dL_build_285 : decode cL_build 285 = .ok (.iadd, 1) := by decide +kernel
theorem dL_build_286 : decode cL_build 286 = .ok (.iload 11, 2) := by decide +kernel
theorem dL_build_288 : decode cL_build 288 = .ok (.iconst 2, 1) := by decide +kernel
theorem dL_build_289 : decode cL_build 289 = .ok (.ishr, 1) := by decide +kernel
theorem dL_build_290 : decode cL_build 290 = .ok (.aload_n 3, 1) := by decide +kernel
theorem dL_build_291 : decode cL_build 291 = .ok (.iconst 1, 1) := by decide +kernel
theorem dL_build_292 : decode cL_build 292 = .ok (.iaload, 1) := by decide +kernel
theorem dL_build_293 : decode cL_build 293 = .ok (.invokestatic 9, 3) := by decide +kernel
theorem dL_build_296 : decode cL_build 296 = .ok (.iastore, 1) := by decide +kernel
theorem dL_build_297 : decode cL_build 297 = .ok (.aload 6, 2) := by decide +kernel
theorem dL_build_299 : decode cL_build 299 = .ok (.iconst 3, 1) := by decide +kernel
theorem dL_build_300 : decode cL_build 300 = .ok (.iload 10, 2) := by decide +kernel
theorem dL_build_302 : decode cL_build 302 = .ok (.imul, 1) := by decide +kernel
theorem dL_build_303 : decode cL_build 303 = .ok (.iconst 2, 1) := by decide +kernel
theorem dL_build_304 : decode cL_build 304 = .ok (.iadd, 1) := by decide +kernel
theorem dL_build_305 : decode cL_build 305 = .ok (.iload 11, 2) := by decide +kernel
theorem dL_build_307 : decode cL_build 307 = .ok (.iconst 4, 1) := by decide +kernel
theorem dL_build_308 : decode cL_build 308 = .ok (.ishr, 1) := by decide +kernel
theorem dL_build_309 : decode cL_build 309 = .ok (.invokestatic 25, 3) := by decide +kernel
theorem dL_build_312 : decode cL_build 312 = .ok (.iastore, 1) := by decide +kernel
theorem dL_build_313 : decode cL_build 313 = .ok (.aload_n 0, 1) := by decide +kernel
theorem dL_build_314 : decode cL_build 314 = .ok (.aload 6, 2) := by decide +kernel
theorem dL_build_316 : decode cL_build 316 = .ok (.iconst 3, 1) := by decide +kernel
theorem dL_build_317 : decode cL_build 317 = .ok (.iload 10, 2) := by decide +kernel
theorem dL_build_319 : decode cL_build 319 = .ok (.imul, 1) := by decide +kernel
theorem dL_build_320 : decode cL_build 320 = .ok (.iaload, 1) := by decide +kernel
theorem dL_build_321 : decode cL_build 321 = .ok (.aload 6, 2) := by decide +kernel
theorem dL_build_323 : decode cL_build 323 = .ok (.iconst 3, 1) := by decide +kernel
theorem dL_build_324 : decode cL_build 324 = .ok (.iload 10, 2) := by decide +kernel
theorem dL_build_326 : decode cL_build 326 = .ok (.imul, 1) := by decide +kernel
theorem dL_build_327 : decode cL_build 327 = .ok (.iconst 1, 1) := by decide +kernel
theorem dL_build_328 : decode cL_build 328 = .ok (.iadd, 1) := by decide +kernel
theorem dL_build_329 : decode cL_build 329 = .ok (.iaload, 1) := by decide +kernel
theorem dL_build_330 : decode cL_build 330 = .ok (.aload 6, 2) := by decide +kernel
theorem dL_build_332 : decode cL_build 332 = .ok (.iconst 3, 1) := by decide +kernel
theorem dL_build_333 : decode cL_build 333 = .ok (.iload 10, 2) := by decide +kernel
theorem dL_build_335 : decode cL_build 335 = .ok (.imul, 1) := by decide +kernel
theorem dL_build_336 : decode cL_build 336 = .ok (.iconst 2, 1) := by decide +kernel
theorem dL_build_337 : decode cL_build 337 = .ok (.iadd, 1) := by decide +kernel
theorem dL_build_338 : decode cL_build 338 = .ok (.iaload, 1) := by decide +kernel
theorem dL_build_339 : decode cL_build 339 = .ok (.bipush 16, 2) := by decide +kernel
theorem dL_build_341 : decode cL_build 341 = .ok (.idiv, 1) := by decide +kernel
theorem dL_build_342 : decode cL_build 342 = .ok (.aload 6, 2) := by decide +kernel
theorem dL_build_344 : decode cL_build 344 = .ok (.iconst 3, 1) := by decide +kernel
theorem dL_build_345 : decode cL_build 345 = .ok (.iload 10, 2) := by decide +kernel
theorem dL_build_347 : decode cL_build 347 = .ok (.imul, 1) := by decide +kernel
theorem dL_build_348 : decode cL_build 348 = .ok (.iconst 2, 1) := by decide +kernel
theorem dL_build_349 : decode cL_build 349 = .ok (.iadd, 1) := by decide +kernel
theorem dL_build_350 : decode cL_build 350 = .ok (.iaload, 1) := by decide +kernel
theorem dL_build_351 : decode cL_build 351 = .ok (.bipush 16, 2) := by decide +kernel
theorem dL_build_353 : decode cL_build 353 = .ok (.irem, 1) := by decide +kernel
theorem dL_build_354 : decode cL_build 354 = .ok (.invokevirtual 32, 3) := by decide +kernel
theorem dL_build_357 : decode cL_build 357 = .ok (.iload 10, 2) := by decide +kernel
theorem dL_build_359 : decode cL_build 359 = .ok (.if_icmp .eq 5, 3) := by decide +kernel
theorem dL_build_362 : decode cL_build 362 = .ok (.iconst 0, 1) := by decide +kernel
theorem dL_build_363 : decode cL_build 363 = .ok (.ireturn, 1) := by decide +kernel
theorem dL_build_364 : decode cL_build 364 = .ok (.iinc 10 1, 3) := by decide +kernel
theorem dL_build_367 : decode cL_build 367 = .ok (.goto (-139), 3) := by decide +kernel
theorem dL_build_370 : decode cL_build 370 = .ok (.aload_n 3, 1) := by decide +kernel
theorem dL_build_371 : decode cL_build 371 = .ok (.iconst 3, 1) := by decide +kernel
theorem dL_build_372 : decode cL_build 372 = .ok (.iconst 1, 1) := by decide +kernel
theorem dL_build_373 : decode cL_build 373 = .ok (.aload_n 1, 1) := by decide +kernel
theorem dL_build_374 : decode cL_build 374 = .ok (.iload_n 2, 1) := by decide +kernel
theorem dL_build_375 : decode cL_build 375 = .ok (.iconst 3, 1) := by decide +kernel
theorem dL_build_376 : decode cL_build 376 = .ok (.iadd, 1) := by decide +kernel
theorem dL_build_377 : decode cL_build 377 = .ok (.invokestatic 15, 3) := by decide +kernel
theorem dL_build_380 : decode cL_build 380 = .ok (.bipush 7, 2) := by decide +kernel
theorem dL_build_382 : decode cL_build 382 = .ok (.invokestatic 9, 3) := by decide +kernel
theorem dL_build_385 : decode cL_build 385 = .ok (.iadd, 1) := by decide +kernel
theorem dL_build_386 : decode cL_build 386 = .ok (.iastore, 1) := by decide +kernel
theorem dL_build_387 : decode cL_build 387 = .ok (.iconst 0, 1) := by decide +kernel
theorem dL_build_388 : decode cL_build 388 = .ok (.istore 10, 2) := by decide +kernel
theorem dL_build_390 : decode cL_build 390 = .ok (.iload 10, 2) := by decide +kernel
theorem dL_build_392 : decode cL_build 392 = .ok (.aload_n 3, 1) := by decide +kernel
theorem dL_build_393 : decode cL_build 393 = .ok (.iconst 3, 1) := by decide +kernel
theorem dL_build_394 : decode cL_build 394 = .ok (.iaload, 1) := by decide +kernel
theorem dL_build_395 : decode cL_build 395 = .ok (.if_icmp .ge 374, 3) := by decide +kernel
theorem dL_build_398 : decode cL_build 398 = .ok (.aload_n 1, 1) := by decide +kernel
theorem dL_build_399 : decode cL_build 399 = .ok (.iload_n 2, 1) := by decide +kernel
theorem dL_build_400 : decode cL_build 400 = .ok (.iconst 4, 1) := by decide +kernel
theorem dL_build_401 : decode cL_build 401 = .ok (.iadd, 1) := by decide +kernel
theorem dL_build_402 : decode cL_build 402 = .ok (.iload 10, 2) := by decide +kernel
theorem dL_build_404 : decode cL_build 404 = .ok (.iconst 4, 1) := by decide +kernel
theorem dL_build_405 : decode cL_build 405 = .ok (.irem, 1) := by decide +kernel
theorem dL_build_406 : decode cL_build 406 = .ok (.iadd, 1) := by decide +kernel
theorem dL_build_407 : decode cL_build 407 = .ok (.invokestatic 15, 3) := by decide +kernel
theorem dL_build_410 : decode cL_build 410 = .ok (.iload 10, 2) := by decide +kernel
theorem dL_build_412 : decode cL_build 412 = .ok (.iconst 4, 1) := by decide +kernel
theorem dL_build_413 : decode cL_build 413 = .ok (.idiv, 1) := by decide +kernel
theorem dL_build_414 : decode cL_build 414 = .ok (.bipush 7, 2) := by decide +kernel
theorem dL_build_416 : decode cL_build 416 = .ok (.imul, 1) := by decide +kernel
theorem dL_build_417 : decode cL_build 417 = .ok (.ishr, 1) := by decide +kernel
theorem dL_build_418 : decode cL_build 418 = .ok (.istore 11, 2) := by decide +kernel
theorem dL_build_420 : decode cL_build 420 = .ok (.bipush 7, 2) := by decide +kernel
theorem dL_build_422 : decode cL_build 422 = .ok (.iload 10, 2) := by decide +kernel
theorem dL_build_424 : decode cL_build 424 = .ok (.imul, 1) := by decide +kernel
theorem dL_build_425 : decode cL_build 425 = .ok (.istore 12, 2) := by decide +kernel
theorem dL_build_427 : decode cL_build 427 = .ok (.aload 7, 2) := by decide +kernel
theorem dL_build_429 : decode cL_build 429 = .ok (.iload 12, 2) := by decide +kernel
theorem dL_build_431 : decode cL_build 431 = .ok (.iload 11, 2) := by decide +kernel
theorem dL_build_433 : decode cL_build 433 = .ok (.aload_n 3, 1) := by decide +kernel
theorem dL_build_434 : decode cL_build 434 = .ok (.iconst 1, 1) := by decide +kernel
theorem dL_build_435 : decode cL_build 435 = .ok (.iaload, 1) := by decide +kernel
theorem dL_build_436 : decode cL_build 436 = .ok (.invokestatic 9, 3) := by decide +kernel
theorem dL_build_439 : decode cL_build 439 = .ok (.iastore, 1) := by decide +kernel
theorem dL_build_440 : decode cL_build 440 = .ok (.aload 7, 2) := by decide +kernel
theorem dL_build_442 : decode cL_build 442 = .ok (.iload 12, 2) := by decide +kernel
theorem dL_build_444 : decode cL_build 444 = .ok (.iconst 1, 1) := by decide +kernel
theorem dL_build_445 : decode cL_build 445 = .ok (.iadd, 1) := by decide +kernel
theorem dL_build_446 : decode cL_build 446 = .ok (.iload 11, 2) := by decide +kernel
theorem dL_build_448 : decode cL_build 448 = .ok (.iconst 3, 1) := by decide +kernel
theorem dL_build_449 : decode cL_build 449 = .ok (.ishr, 1) := by decide +kernel
theorem dL_build_450 : decode cL_build 450 = .ok (.iconst 2, 1) := by decide +kernel
theorem dL_build_451 : decode cL_build 451 = .ok (.invokestatic 9, 3) := by decide +kernel
theorem dL_build_454 : decode cL_build 454 = .ok (.iastore, 1) := by decide +kernel
theorem dL_build_455 : decode cL_build 455 = .ok (.aload 7, 2) := by decide +kernel
theorem dL_build_457 : decode cL_build 457 = .ok (.iload 12, 2) := by decide +kernel
theorem dL_build_459 : decode cL_build 459 = .ok (.iconst 2, 1) := by decide +kernel
theorem dL_build_460 : decode cL_build 460 = .ok (.iadd, 1) := by decide +kernel
theorem dL_build_461 : decode cL_build 461 = .ok (.iload 11, 2) := by decide +kernel
theorem dL_build_463 : decode cL_build 463 = .ok (.iconst 4, 1) := by decide +kernel
theorem dL_build_464 : decode cL_build 464 = .ok (.ishr, 1) := by decide +kernel
theorem dL_build_465 : decode cL_build 465 = .ok (.iconst 3, 1) := by decide +kernel
theorem dL_build_466 : decode cL_build 466 = .ok (.invokestatic 9, 3) := by decide +kernel
theorem dL_build_469 : decode cL_build 469 = .ok (.ifCond .ne 8, 3) := by decide +kernel
theorem dL_build_472 : decode cL_build 472 = .ok (.bipush 8, 2) := by decide +kernel
theorem dL_build_474 : decode cL_build 474 = .ok (.goto 14, 3) := by decide +kernel
theorem dL_build_477 : decode cL_build 477 = .ok (.iload 11, 2) := by decide +kernel
theorem dL_build_479 : decode cL_build 479 = .ok (.bipush 6, 2) := by decide +kernel
theorem dL_build_481 : decode cL_build 481 = .ok (.ishr, 1) := by decide +kernel
theorem dL_build_482 : decode cL_build 482 = .ok (.aload_n 3, 1) := by decide +kernel
theorem dL_build_483 : decode cL_build 483 = .ok (.iconst 1, 1) := by decide +kernel
theorem dL_build_484 : decode cL_build 484 = .ok (.iaload, 1) := by decide +kernel
theorem dL_build_485 : decode cL_build 485 = .ok (.invokestatic 9, 3) := by decide +kernel
theorem dL_build_488 : decode cL_build 488 = .ok (.iastore, 1) := by decide +kernel
theorem dL_build_489 : decode cL_build 489 = .ok (.aload 7, 2) := by decide +kernel
theorem dL_build_491 : decode cL_build 491 = .ok (.iload 12, 2) := by decide +kernel
theorem dL_build_493 : decode cL_build 493 = .ok (.iconst 3, 1) := by decide +kernel
theorem dL_build_494 : decode cL_build 494 = .ok (.iadd, 1) := by decide +kernel
theorem dL_build_495 : decode cL_build 495 = .ok (.iload 11, 2) := by decide +kernel
theorem dL_build_497 : decode cL_build 497 = .ok (.bipush 8, 2) := by decide +kernel
theorem dL_build_499 : decode cL_build 499 = .ok (.ishr, 1) := by decide +kernel
theorem dL_build_500 : decode cL_build 500 = .ok (.iconst 3, 1) := by decide +kernel
theorem dL_build_501 : decode cL_build 501 = .ok (.invokestatic 9, 3) := by decide +kernel
theorem dL_build_504 : decode cL_build 504 = .ok (.ifCond .ne 7, 3) := by decide +kernel
theorem dL_build_507 : decode cL_build 507 = .ok (.iconst 0, 1) := by decide +kernel
theorem dL_build_508 : decode cL_build 508 = .ok (.goto 4, 3) := by decide +kernel
theorem dL_build_511 : decode cL_build 511 = .ok (.iconst 1, 1) := by decide +kernel
theorem dL_build_512 : decode cL_build 512 = .ok (.iastore, 1) := by decide +kernel
theorem dL_build_513 : decode cL_build 513 = .ok (.aload 7, 2) := by decide +kernel
theorem dL_build_515 : decode cL_build 515 = .ok (.iload 12, 2) := by decide +kernel
theorem dL_build_517 : decode cL_build 517 = .ok (.iconst 3, 1) := by decide +kernel
theorem dL_build_518 : decode cL_build 518 = .ok (.iadd, 1) := by decide +kernel
theorem dL_build_519 : decode cL_build 519 = .ok (.iaload, 1) := by decide +kernel
theorem dL_build_520 : decode cL_build 520 = .ok (.iconst 1, 1) := by decide +kernel
theorem dL_build_521 : decode cL_build 521 = .ok (.if_icmp .ne 15, 3) := by decide +kernel
theorem dL_build_524 : decode cL_build 524 = .ok (.iload 11, 2) := by decide +kernel
theorem dL_build_526 : decode cL_build 526 = .ok (.bipush 10, 2) := by decide +kernel
theorem dL_build_528 : decode cL_build 528 = .ok (.ishr, 1) := by decide +kernel
theorem dL_build_529 : decode cL_build 529 = .ok (.iconst 3, 1) := by decide +kernel
theorem dL_build_530 : decode cL_build 530 = .ok (.invokestatic 9, 3) := by decide +kernel
theorem dL_build_533 : decode cL_build 533 = .ok (.goto 4, 3) := by decide +kernel
theorem dL_build_536 : decode cL_build 536 = .ok (.iconst 0, 1) := by decide +kernel
theorem dL_build_537 : decode cL_build 537 = .ok (.istore 13, 2) := by decide +kernel
theorem dL_build_539 : decode cL_build 539 = .ok (.aload 7, 2) := by decide +kernel
theorem dL_build_541 : decode cL_build 541 = .ok (.iload 12, 2) := by decide +kernel
theorem dL_build_543 : decode cL_build 543 = .ok (.iconst 4, 1) := by decide +kernel
theorem dL_build_544 : decode cL_build 544 = .ok (.iadd, 1) := by decide +kernel
theorem dL_build_545 : decode cL_build 545 = .ok (.iload 13, 2) := by decide +kernel
theorem dL_build_547 : decode cL_build 547 = .ok (.ifCond .le 34, 3) := by decide +kernel
theorem dL_build_550 : decode cL_build 550 = .ok (.iload 11, 2) := by decide +kernel
theorem dL_build_552 : decode cL_build 552 = .ok (.bipush 12, 2) := by decide +kernel
theorem dL_build_554 : decode cL_build 554 = .ok (.ishr, 1) := by decide +kernel
theorem dL_build_555 : decode cL_build 555 = .ok (.iconst 3, 1) := by decide +kernel
theorem dL_build_556 : decode cL_build 556 = .ok (.invokestatic 9, 3) := by decide +kernel
theorem dL_build_559 : decode cL_build 559 = .ok (.ifCond .ne 17, 3) := by decide +kernel
theorem dL_build_562 : decode cL_build 562 = .ok (.iload 11, 2) := by decide +kernel
theorem dL_build_564 : decode cL_build 564 = .ok (.bipush 13, 2) := by decide +kernel
theorem dL_build_566 : decode cL_build 566 = .ok (.ishr, 1) := by decide +kernel
theorem dL_build_567 : decode cL_build 567 = .ok (.aload_n 3, 1) := by decide +kernel
theorem dL_build_568 : decode cL_build 568 = .ok (.iconst 1, 1) := by decide +kernel
theorem dL_build_569 : decode cL_build 569 = .ok (.iaload, 1) := by decide +kernel
theorem dL_build_570 : decode cL_build 570 = .ok (.invokestatic 9, 3) := by decide +kernel
theorem dL_build_573 : decode cL_build 573 = .ok (.goto 9, 3) := by decide +kernel
theorem dL_build_576 : decode cL_build 576 = .ok (.bipush 8, 2) := by decide +kernel
theorem dL_build_578 : decode cL_build 578 = .ok (.goto 4, 3) := by decide +kernel
theorem dL_build_581 : decode cL_build 581 = .ok (.iconst (-1), 1) := by decide +kernel
theorem dL_build_582 : decode cL_build 582 = .ok (.iastore, 1) := by decide +kernel
theorem dL_build_583 : decode cL_build 583 = .ok (.aload 7, 2) := by decide +kernel
theorem dL_build_585 : decode cL_build 585 = .ok (.iload 12, 2) := by decide +kernel
theorem dL_build_587 : decode cL_build 587 = .ok (.iconst 5, 1) := by decide +kernel
theorem dL_build_588 : decode cL_build 588 = .ok (.iadd, 1) := by decide +kernel
theorem dL_build_589 : decode cL_build 589 = .ok (.iload 13, 2) := by decide +kernel
theorem dL_build_591 : decode cL_build 591 = .ok (.iconst 1, 1) := by decide +kernel
theorem dL_build_592 : decode cL_build 592 = .ok (.if_icmp .le 34, 3) := by decide +kernel
theorem dL_build_595 : decode cL_build 595 = .ok (.iload 11, 2) := by decide +kernel
theorem dL_build_597 : decode cL_build 597 = .ok (.bipush 15, 2) := by decide +kernel
theorem dL_build_599 : decode cL_build 599 = .ok (.ishr, 1) := by decide +kernel
theorem dL_build_600 : decode cL_build 600 = .ok (.iconst 2, 1) := by decide +kernel
theorem dL_build_601 : decode cL_build 601 = .ok (.invokestatic 9, 3) := by decide +kernel
theorem dL_build_604 : decode cL_build 604 = .ok (.ifCond .ne 17, 3) := by decide +kernel
theorem dL_build_607 : decode cL_build 607 = .ok (.iload 11, 2) := by decide +kernel
theorem dL_build_609 : decode cL_build 609 = .ok (.bipush 16, 2) := by decide +kernel
theorem dL_build_611 : decode cL_build 611 = .ok (.ishr, 1) := by decide +kernel
theorem dL_build_612 : decode cL_build 612 = .ok (.aload_n 3, 1) := by decide +kernel
theorem dL_build_613 : decode cL_build 613 = .ok (.iconst 1, 1) := by decide +kernel
theorem dL_build_614 : decode cL_build 614 = .ok (.iaload, 1) := by decide +kernel
theorem dL_build_615 : decode cL_build 615 = .ok (.invokestatic 9, 3) := by decide +kernel
theorem dL_build_618 : decode cL_build 618 = .ok (.goto 9, 3) := by decide +kernel
theorem dL_build_621 : decode cL_build 621 = .ok (.bipush 8, 2) := by decide +kernel
theorem dL_build_623 : decode cL_build 623 = .ok (.goto 4, 3) := by decide +kernel
theorem dL_build_626 : decode cL_build 626 = .ok (.iconst (-1), 1) := by decide +kernel
theorem dL_build_627 : decode cL_build 627 = .ok (.iastore, 1) := by decide +kernel
theorem dL_build_628 : decode cL_build 628 = .ok (.aload 7, 2) := by decide +kernel
theorem dL_build_630 : decode cL_build 630 = .ok (.iload 12, 2) := by decide +kernel
theorem dL_build_632 : decode cL_build 632 = .ok (.bipush 6, 2) := by decide +kernel
theorem dL_build_634 : decode cL_build 634 = .ok (.iadd, 1) := by decide +kernel
theorem dL_build_635 : decode cL_build 635 = .ok (.iload 11, 2) := by decide +kernel
theorem dL_build_637 : decode cL_build 637 = .ok (.bipush 18, 2) := by decide +kernel
theorem dL_build_639 : decode cL_build 639 = .ok (.ishr, 1) := by decide +kernel
theorem dL_build_640 : decode cL_build 640 = .ok (.invokestatic 25, 3) := by decide +kernel
theorem dL_build_643 : decode cL_build 643 = .ok (.iastore, 1) := by decide +kernel
theorem dL_build_644 : decode cL_build 644 = .ok (.aload 7, 2) := by decide +kernel
theorem dL_build_646 : decode cL_build 646 = .ok (.iload 12, 2) := by decide +kernel
theorem dL_build_648 : decode cL_build 648 = .ok (.bipush 6, 2) := by decide +kernel
theorem dL_build_650 : decode cL_build 650 = .ok (.iadd, 1) := by decide +kernel
theorem dL_build_651 : decode cL_build 651 = .ok (.iaload, 1) := by decide +kernel
theorem dL_build_652 : decode cL_build 652 = .ok (.bipush 16, 2) := by decide +kernel
theorem dL_build_654 : decode cL_build 654 = .ok (.idiv, 1) := by decide +kernel
theorem dL_build_655 : decode cL_build 655 = .ok (.istore 14, 2) := by decide +kernel
theorem dL_build_657 : decode cL_build 657 = .ok (.aload 7, 2) := by decide +kernel
theorem dL_build_659 : decode cL_build 659 = .ok (.iload 12, 2) := by decide +kernel
theorem dL_build_661 : decode cL_build 661 = .ok (.bipush 6, 2) := by decide +kernel
theorem dL_build_663 : decode cL_build 663 = .ok (.iadd, 1) := by decide +kernel
theorem dL_build_664 : decode cL_build 664 = .ok (.iaload, 1) := by decide +kernel
theorem dL_build_665 : decode cL_build 665 = .ok (.bipush 16, 2) := by decide +kernel
theorem dL_build_667 : decode cL_build 667 = .ok (.irem, 1) := by decide +kernel
theorem dL_build_668 : decode cL_build 668 = .ok (.istore 15, 2) := by decide +kernel
theorem dL_build_670 : decode cL_build 670 = .ok (.aload 7, 2) := by decide +kernel
theorem dL_build_672 : decode cL_build 672 = .ok (.iload 12, 2) := by decide +kernel
theorem dL_build_674 : decode cL_build 674 = .ok (.iconst 3, 1) := by decide +kernel
theorem dL_build_675 : decode cL_build 675 = .ok (.iadd, 1) := by decide +kernel
theorem dL_build_676 : decode cL_build 676 = .ok (.iaload, 1) := by decide +kernel
theorem dL_build_677 : decode cL_build 677 = .ok (.iconst 1, 1) := by decide +kernel
theorem dL_build_678 : decode cL_build 678 = .ok (.if_icmp .ne 47, 3) := by decide +kernel
theorem dL_build_681 : decode cL_build 681 = .ok (.aload_n 0, 1) := by decide +kernel
theorem dL_build_682 : decode cL_build 682 = .ok (.aload 7, 2) := by decide +kernel
theorem dL_build_684 : decode cL_build 684 = .ok (.iload 12, 2) := by decide +kernel
theorem dL_build_686 : decode cL_build 686 = .ok (.iaload, 1) := by decide +kernel
theorem dL_build_687 : decode cL_build 687 = .ok (.aload 7, 2) := by decide +kernel
theorem dL_build_689 : decode cL_build 689 = .ok (.iload 12, 2) := by decide +kernel
theorem dL_build_691 : decode cL_build 691 = .ok (.iconst 1, 1) := by decide +kernel
theorem dL_build_692 : decode cL_build 692 = .ok (.iadd, 1) := by decide +kernel
theorem dL_build_693 : decode cL_build 693 = .ok (.iaload, 1) := by decide +kernel
theorem dL_build_694 : decode cL_build 694 = .ok (.aload 7, 2) := by decide +kernel
theorem dL_build_696 : decode cL_build 696 = .ok (.iload 12, 2) := by decide +kernel
theorem dL_build_698 : decode cL_build 698 = .ok (.iconst 2, 1) := by decide +kernel
theorem dL_build_699 : decode cL_build 699 = .ok (.iadd, 1) := by decide +kernel
theorem dL_build_700 : decode cL_build 700 = .ok (.iaload, 1) := by decide +kernel
theorem dL_build_701 : decode cL_build 701 = .ok (.aload 7, 2) := by decide +kernel
theorem dL_build_703 : decode cL_build 703 = .ok (.iload 12, 2) := by decide +kernel
theorem dL_build_705 : decode cL_build 705 = .ok (.iconst 4, 1) := by decide +kernel
theorem dL_build_706 : decode cL_build 706 = .ok (.iadd, 1) := by decide +kernel
theorem dL_build_707 : decode cL_build 707 = .ok (.iaload, 1) := by decide +kernel
theorem dL_build_708 : decode cL_build 708 = .ok (.aload 7, 2) := by decide +kernel
theorem dL_build_710 : decode cL_build 710 = .ok (.iload 12, 2) := by decide +kernel
theorem dL_build_712 : decode cL_build 712 = .ok (.iconst 5, 1) := by decide +kernel
theorem dL_build_713 : decode cL_build 713 = .ok (.iadd, 1) := by decide +kernel
theorem dL_build_714 : decode cL_build 714 = .ok (.iaload, 1) := by decide +kernel
theorem dL_build_715 : decode cL_build 715 = .ok (.iload 14, 2) := by decide +kernel
theorem dL_build_717 : decode cL_build 717 = .ok (.iload 15, 2) := by decide +kernel
theorem dL_build_719 : decode cL_build 719 = .ok (.invokevirtual 36, 3) := by decide +kernel
theorem dL_build_722 : decode cL_build 722 = .ok (.goto 30, 3) := by decide +kernel
theorem dL_build_725 : decode cL_build 725 = .ok (.aload_n 0, 1) := by decide +kernel
theorem dL_build_726 : decode cL_build 726 = .ok (.aload 7, 2) := by decide +kernel
theorem dL_build_728 : decode cL_build 728 = .ok (.iload 12, 2) := by decide +kernel
theorem dL_build_730 : decode cL_build 730 = .ok (.iaload, 1) := by decide +kernel
theorem dL_build_731 : decode cL_build 731 = .ok (.aload 7, 2) := by decide +kernel
theorem dL_build_733 : decode cL_build 733 = .ok (.iload 12, 2) := by decide +kernel
theorem dL_build_735 : decode cL_build 735 = .ok (.iconst 1, 1) := by decide +kernel
theorem dL_build_736 : decode cL_build 736 = .ok (.iadd, 1) := by decide +kernel
theorem dL_build_737 : decode cL_build 737 = .ok (.iaload, 1) := by decide +kernel
theorem dL_build_738 : decode cL_build 738 = .ok (.aload 7, 2) := by decide +kernel
theorem dL_build_740 : decode cL_build 740 = .ok (.iload 12, 2) := by decide +kernel
theorem dL_build_742 : decode cL_build 742 = .ok (.iconst 2, 1) := by decide +kernel
theorem dL_build_743 : decode cL_build 743 = .ok (.iadd, 1) := by decide +kernel
theorem dL_build_744 : decode cL_build 744 = .ok (.iaload, 1) := by decide +kernel
theorem dL_build_745 : decode cL_build 745 = .ok (.iload 14, 2) := by decide +kernel
theorem dL_build_747 : decode cL_build 747 = .ok (.iload 15, 2) := by decide +kernel
theorem dL_build_749 : decode cL_build 749 = .ok (.invokevirtual 40, 3) := by decide +kernel
theorem dL_build_752 : decode cL_build 752 = .ok (.istore 16, 2) := by decide +kernel
theorem dL_build_754 : decode cL_build 754 = .ok (.iload 16, 2) := by decide +kernel
theorem dL_build_756 : decode cL_build 756 = .ok (.iload 10, 2) := by decide +kernel
theorem dL_build_758 : decode cL_build 758 = .ok (.if_icmp .eq 5, 3) := by decide +kernel
theorem dL_build_761 : decode cL_build 761 = .ok (.iconst 0, 1) := by decide +kernel
theorem dL_build_762 : decode cL_build 762 = .ok (.ireturn, 1) := by decide +kernel
theorem dL_build_763 : decode cL_build 763 = .ok (.iinc 10 1, 3) := by decide +kernel
theorem dL_build_766 : decode cL_build 766 = .ok (.goto (-376), 3) := by decide +kernel
theorem dL_build_769 : decode cL_build 769 = .ok (.aload_n 3, 1) := by decide +kernel
theorem dL_build_770 : decode cL_build 770 = .ok (.iconst 4, 1) := by decide +kernel
theorem dL_build_771 : decode cL_build 771 = .ok (.iconst 0, 1) := by decide +kernel
theorem dL_build_772 : decode cL_build 772 = .ok (.iastore, 1) := by decide +kernel
theorem dL_build_773 : decode cL_build 773 = .ok (.aload_n 3, 1) := by decide +kernel
theorem dL_build_774 : decode cL_build 774 = .ok (.iconst 5, 1) := by decide +kernel
theorem dL_build_775 : decode cL_build 775 = .ok (.iconst 0, 1) := by decide +kernel
theorem dL_build_776 : decode cL_build 776 = .ok (.iastore, 1) := by decide +kernel
theorem dL_build_777 : decode cL_build 777 = .ok (.aload_n 1, 1) := by decide +kernel
theorem dL_build_778 : decode cL_build 778 = .ok (.iload_n 2, 1) := by decide +kernel
theorem dL_build_779 : decode cL_build 779 = .ok (.bipush 8, 2) := by decide +kernel
theorem dL_build_781 : decode cL_build 781 = .ok (.iadd, 1) := by decide +kernel
theorem dL_build_782 : decode cL_build 782 = .ok (.invokestatic 15, 3) := by decide +kernel
theorem dL_build_785 : decode cL_build 785 = .ok (.bipush 15, 2) := by decide +kernel
theorem dL_build_787 : decode cL_build 787 = .ok (.invokestatic 9, 3) := by decide +kernel
theorem dL_build_790 : decode cL_build 790 = .ok (.istore 10, 2) := by decide +kernel
theorem dL_build_792 : decode cL_build 792 = .ok (.iconst 0, 1) := by decide +kernel
theorem dL_build_793 : decode cL_build 793 = .ok (.istore 11, 2) := by decide +kernel
theorem dL_build_795 : decode cL_build 795 = .ok (.iload 11, 2) := by decide +kernel
theorem dL_build_797 : decode cL_build 797 = .ok (.iload 10, 2) := by decide +kernel
theorem dL_build_799 : decode cL_build 799 = .ok (.if_icmp .ge 632, 3) := by decide +kernel
theorem dL_build_802 : decode cL_build 802 = .ok (.aload_n 1, 1) := by decide +kernel
theorem dL_build_803 : decode cL_build 803 = .ok (.iload_n 2, 1) := by decide +kernel
theorem dL_build_804 : decode cL_build 804 = .ok (.bipush 9, 2) := by decide +kernel
theorem dL_build_806 : decode cL_build 806 = .ok (.iadd, 1) := by decide +kernel
theorem dL_build_807 : decode cL_build 807 = .ok (.iload 11, 2) := by decide +kernel
theorem dL_build_809 : decode cL_build 809 = .ok (.iconst 5, 1) := by decide +kernel
theorem dL_build_810 : decode cL_build 810 = .ok (.irem, 1) := by decide +kernel
theorem dL_build_811 : decode cL_build 811 = .ok (.iadd, 1) := by decide +kernel
theorem dL_build_812 : decode cL_build 812 = .ok (.invokestatic 15, 3) := by decide +kernel
theorem dL_build_815 : decode cL_build 815 = .ok (.iload 11, 2) := by decide +kernel
theorem dL_build_817 : decode cL_build 817 = .ok (.iconst 5, 1) := by decide +kernel
theorem dL_build_818 : decode cL_build 818 = .ok (.idiv, 1) := by decide +kernel
theorem dL_build_819 : decode cL_build 819 = .ok (.bipush 9, 2) := by decide +kernel
theorem dL_build_821 : decode cL_build 821 = .ok (.imul, 1) := by decide +kernel
theorem dL_build_822 : decode cL_build 822 = .ok (.ishr, 1) := by decide +kernel
theorem dL_build_823 : decode cL_build 823 = .ok (.istore 12, 2) := by decide +kernel
theorem dL_build_825 : decode cL_build 825 = .ok (.iload 12, 2) := by decide +kernel
theorem dL_build_827 : decode cL_build 827 = .ok (.aload_n 3, 1) := by decide +kernel
theorem dL_build_828 : decode cL_build 828 = .ok (.iconst 3, 1) := by decide +kernel
theorem dL_build_829 : decode cL_build 829 = .ok (.iaload, 1) := by decide +kernel
theorem dL_build_830 : decode cL_build 830 = .ok (.invokestatic 9, 3) := by decide +kernel
theorem dL_build_833 : decode cL_build 833 = .ok (.istore 13, 2) := by decide +kernel
theorem dL_build_835 : decode cL_build 835 = .ok (.aload 7, 2) := by decide +kernel
theorem dL_build_837 : decode cL_build 837 = .ok (.bipush 7, 2) := by decide +kernel
theorem dL_build_839 : decode cL_build 839 = .ok (.iload 13, 2) := by decide +kernel
theorem dL_build_841 : decode cL_build 841 = .ok (.imul, 1) := by decide +kernel
theorem dL_build_842 : decode cL_build 842 = .ok (.iconst 3, 1) := by decide +kernel
theorem dL_build_843 : decode cL_build 843 = .ok (.iadd, 1) := by decide +kernel
theorem dL_build_844 : decode cL_build 844 = .ok (.iaload, 1) := by decide +kernel
theorem dL_build_845 : decode cL_build 845 = .ok (.ifCond .ne 6, 3) := by decide +kernel
theorem dL_build_848 : decode cL_build 848 = .ok (.goto 577, 3) := by decide +kernel
theorem dL_build_851 : decode cL_build 851 = .ok (.bipush 6, 2) := by decide +kernel
theorem dL_build_853 : decode cL_build 853 = .ok (.aload_n 3, 1) := by decide +kernel
theorem dL_build_854 : decode cL_build 854 = .ok (.iconst 4, 1) := by decide +kernel
theorem dL_build_855 : decode cL_build 855 = .ok (.iaload, 1) := by decide +kernel
theorem dL_build_856 : decode cL_build 856 = .ok (.imul, 1) := by decide +kernel
theorem dL_build_857 : decode cL_build 857 = .ok (.istore 14, 2) := by decide +kernel
theorem dL_build_859 : decode cL_build 859 = .ok (.iload 12, 2) := by decide +kernel
theorem dL_build_861 : decode cL_build 861 = .ok (.iconst 3, 1) := by decide +kernel
theorem dL_build_862 : decode cL_build 862 = .ok (.ishr, 1) := by decide +kernel
theorem dL_build_863 : decode cL_build 863 = .ok (.bipush 6, 2) := by decide +kernel
theorem dL_build_865 : decode cL_build 865 = .ok (.invokestatic 9, 3) := by decide +kernel
theorem dL_build_868 : decode cL_build 868 = .ok (.istore 15, 2) := by decide +kernel
theorem dL_build_870 : decode cL_build 870 = .ok (.aload_n 3, 1) := by decide +kernel
theorem dL_build_871 : decode cL_build 871 = .ok (.iconst 4, 1) := by decide +kernel
theorem dL_build_872 : decode cL_build 872 = .ok (.iaload, 1) := by decide +kernel
theorem dL_build_873 : decode cL_build 873 = .ok (.ifCond .ne 7, 3) := by decide +kernel
theorem dL_build_876 : decode cL_build 876 = .ok (.iconst (-1), 1) := by decide +kernel
theorem dL_build_877 : decode cL_build 877 = .ok (.goto 14, 3) := by decide +kernel
theorem dL_build_880 : decode cL_build 880 = .ok (.iload 12, 2) := by decide +kernel
theorem dL_build_882 : decode cL_build 882 = .ok (.bipush 6, 2) := by decide +kernel
theorem dL_build_884 : decode cL_build 884 = .ok (.ishr, 1) := by decide +kernel
theorem dL_build_885 : decode cL_build 885 = .ok (.aload_n 3, 1) := by decide +kernel
theorem dL_build_886 : decode cL_build 886 = .ok (.iconst 4, 1) := by decide +kernel
theorem dL_build_887 : decode cL_build 887 = .ok (.iaload, 1) := by decide +kernel
theorem dL_build_888 : decode cL_build 888 = .ok (.invokestatic 9, 3) := by decide +kernel
theorem dL_build_891 : decode cL_build 891 = .ok (.istore 16, 2) := by decide +kernel
theorem dL_build_893 : decode cL_build 893 = .ok (.aload 7, 2) := by decide +kernel
theorem dL_build_895 : decode cL_build 895 = .ok (.bipush 7, 2) := by decide +kernel
theorem dL_build_897 : decode cL_build 897 = .ok (.iload 13, 2) := by decide +kernel
theorem dL_build_899 : decode cL_build 899 = .ok (.imul, 1) := by decide +kernel
theorem dL_build_900 : decode cL_build 900 = .ok (.iconst 4, 1) := by decide +kernel
theorem dL_build_901 : decode cL_build 901 = .ok (.iadd, 1) := by decide +kernel
theorem dL_build_902 : decode cL_build 902 = .ok (.iaload, 1) := by decide +kernel
theorem dL_build_903 : decode cL_build 903 = .ok (.ifCond .ge 7, 3) := by decide +kernel
theorem dL_build_906 : decode cL_build 906 = .ok (.iconst 0, 1) := by decide +kernel
theorem dL_build_907 : decode cL_build 907 = .ok (.goto 21, 3) := by decide +kernel
theorem dL_build_910 : decode cL_build 910 = .ok (.aload 7, 2) := by decide +kernel
theorem dL_build_912 : decode cL_build 912 = .ok (.bipush 7, 2) := by decide +kernel
theorem dL_build_914 : decode cL_build 914 = .ok (.iload 13, 2) := by decide +kernel
theorem dL_build_916 : decode cL_build 916 = .ok (.imul, 1) := by decide +kernel
theorem dL_build_917 : decode cL_build 917 = .ok (.iconst 5, 1) := by decide +kernel
theorem dL_build_918 : decode cL_build 918 = .ok (.iadd, 1) := by decide +kernel
theorem dL_build_919 : decode cL_build 919 = .ok (.iaload, 1) := by decide +kernel
theorem dL_build_920 : decode cL_build 920 = .ok (.ifCond .ge 7, 3) := by decide +kernel
theorem dL_build_923 : decode cL_build 923 = .ok (.iconst 1, 1) := by decide +kernel
theorem dL_build_924 : decode cL_build 924 = .ok (.goto 4, 3) := by decide +kernel
theorem dL_build_927 : decode cL_build 927 = .ok (.iconst 2, 1) := by decide +kernel
theorem dL_build_928 : decode cL_build 928 = .ok (.istore 17, 2) := by decide +kernel
theorem dL_build_930 : decode cL_build 930 = .ok (.iload 15, 2) := by decide +kernel
theorem dL_build_932 : decode cL_build 932 = .ok (.iconst 3, 1) := by decide +kernel
theorem dL_build_933 : decode cL_build 933 = .ok (.if_icmp .ne 8, 3) := by decide +kernel
theorem dL_build_936 : decode cL_build 936 = .ok (.iload 17, 2) := by decide +kernel
theorem dL_build_938 : decode cL_build 938 = .ok (.ifCond .eq 14, 3) := by decide +kernel
theorem dL_build_941 : decode cL_build 941 = .ok (.iload 15, 2) := by decide +kernel
theorem dL_build_943 : decode cL_build 943 = .ok (.iconst 3, 1) := by decide +kernel
theorem dL_build_944 : decode cL_build 944 = .ok (.if_icmp .le 21, 3) := by decide +kernel
theorem dL_build_947 : decode cL_build 947 = .ok (.iload 16, 2) := by decide +kernel
theorem dL_build_949 : decode cL_build 949 = .ok (.ifCond .ge 16, 3) := by decide +kernel
theorem dL_build_952 : decode cL_build 952 = .ok (.iconst 1, 1) := by decide +kernel
theorem dL_build_953 : decode cL_build 953 = .ok (.iload 12, 2) := by decide +kernel
theorem dL_build_955 : decode cL_build 955 = .ok (.bipush 7, 2) := by decide +kernel
theorem dL_build_957 : decode cL_build 957 = .ok (.ishr, 1) := by decide +kernel
theorem dL_build_958 : decode cL_build 958 = .ok (.iconst 2, 1) := by decide +kernel
theorem dL_build_959 : decode cL_build 959 = .ok (.invokestatic 9, 3) := by decide +kernel
theorem dL_build_962 : decode cL_build 962 = .ok (.iadd, 1) := by decide +kernel
theorem dL_build_963 : decode cL_build 963 = .ok (.istore 15, 2) := by decide +kernel
theorem dL_build_965 : decode cL_build 965 = .ok (.aload 8, 2) := by decide +kernel
theorem dL_build_967 : decode cL_build 967 = .ok (.iload 14, 2) := by decide +kernel
theorem dL_build_969 : decode cL_build 969 = .ok (.iload 15, 2) := by decide +kernel
theorem dL_build_971 : decode cL_build 971 = .ok (.iastore, 1) := by decide +kernel
theorem dL_build_972 : decode cL_build 972 = .ok (.aload 8, 2) := by decide +kernel
theorem dL_build_974 : decode cL_build 974 = .ok (.iload 14, 2) := by decide +kernel
theorem dL_build_976 : decode cL_build 976 = .ok (.iconst 1, 1) := by decide +kernel
theorem dL_build_977 : decode cL_build 977 = .ok (.iadd, 1) := by decide +kernel
theorem dL_build_978 : decode cL_build 978 = .ok (.iload 15, 2) := by decide +kernel
theorem dL_build_980 : decode cL_build 980 = .ok (.iconst 3, 1) := by decide +kernel
theorem dL_build_981 : decode cL_build 981 = .ok (.if_icmp .le 16, 3) := by decide +kernel
theorem dL_build_984 : decode cL_build 984 = .ok (.aload 8, 2) := by decide +kernel
theorem dL_build_986 : decode cL_build 986 = .ok (.bipush 6, 2) := by decide +kernel
theorem dL_build_988 : decode cL_build 988 = .ok (.iload 16, 2) := by decide +kernel
theorem dL_build_990 : decode cL_build 990 = .ok (.imul, 1) := by decide +kernel
theorem dL_build_991 : decode cL_build 991 = .ok (.iconst 1, 1) := by decide +kernel
theorem dL_build_992 : decode cL_build 992 = .ok (.iadd, 1) := by decide +kernel
theorem dL_build_993 : decode cL_build 993 = .ok (.iaload, 1) := by decide +kernel
theorem dL_build_994 : decode cL_build 994 = .ok (.goto 5, 3) := by decide +kernel
theorem dL_build_997 : decode cL_build 997 = .ok (.iload 13, 2) := by decide +kernel
theorem dL_build_999 : decode cL_build 999 = .ok (.iastore, 1) := by decide +kernel
theorem dL_build_1000 : decode cL_build 1000 = .ok (.aload 8, 2) := by decide +kernel
theorem dL_build_1002 : decode cL_build 1002 = .ok (.iload 14, 2) := by decide +kernel
theorem dL_build_1004 : decode cL_build 1004 = .ok (.iconst 2, 1) := by decide +kernel
theorem dL_build_1005 : decode cL_build 1005 = .ok (.iadd, 1) := by decide +kernel
theorem dL_build_1006 : decode cL_build 1006 = .ok (.iload 15, 2) := by decide +kernel
theorem dL_build_1008 : decode cL_build 1008 = .ok (.ifCond .ne 17, 3) := by decide +kernel
theorem dL_build_1011 : decode cL_build 1011 = .ok (.iload 12, 2) := by decide +kernel
theorem dL_build_1013 : decode cL_build 1013 = .ok (.bipush 9, 2) := by decide +kernel
theorem dL_build_1015 : decode cL_build 1015 = .ok (.ishr, 1) := by decide +kernel
theorem dL_build_1016 : decode cL_build 1016 = .ok (.aload_n 3, 1) := by decide +kernel
theorem dL_build_1017 : decode cL_build 1017 = .ok (.iconst 1, 1) := by decide +kernel
theorem dL_build_1018 : decode cL_build 1018 = .ok (.iaload, 1) := by decide +kernel
theorem dL_build_1019 : decode cL_build 1019 = .ok (.invokestatic 9, 3) := by decide +kernel
theorem dL_build_1022 : decode cL_build 1022 = .ok (.goto 41, 3) := by decide +kernel
theorem dL_build_1025 : decode cL_build 1025 = .ok (.iload 15, 2) := by decide +kernel
theorem dL_build_1027 : decode cL_build 1027 = .ok (.iconst 3, 1) := by decide +kernel
theorem dL_build_1028 : decode cL_build 1028 = .ok (.if_icmp .ne 16, 3) := by decide +kernel
theorem dL_build_1031 : decode cL_build 1031 = .ok (.iload 12, 2) := by decide +kernel
theorem dL_build_1033 : decode cL_build 1033 = .ok (.bipush 9, 2) := by decide +kernel
theorem dL_build_1035 : decode cL_build 1035 = .ok (.ishr, 1) := by decide +kernel
theorem dL_build_1036 : decode cL_build 1036 = .ok (.iload 17, 2) := by decide +kernel
theorem dL_build_1038 : decode cL_build 1038 = .ok (.invokestatic 9, 3) := by decide +kernel
theorem dL_build_1041 : decode cL_build 1041 = .ok (.goto 22, 3) := by decide +kernel
theorem dL_build_1044 : decode cL_build 1044 = .ok (.iload 15, 2) := by decide +kernel
theorem dL_build_1046 : decode cL_build 1046 = .ok (.iconst 3, 1) := by decide +kernel
theorem dL_build_1047 : decode cL_build 1047 = .ok (.if_icmp .le 15, 3) := by decide +kernel
theorem dL_build_1050 : decode cL_build 1050 = .ok (.iload 12, 2) := by decide +kernel
theorem dL_build_1052 : decode cL_build 1052 = .ok (.bipush 9, 2) := by decide +kernel
theorem dL_build_1054 : decode cL_build 1054 = .ok (.ishr, 1) := by decide +kernel
theorem dL_build_1055 : decode cL_build 1055 = .ok (.iconst 2, 1) := by decide +kernel
theorem dL_build_1056 : decode cL_build 1056 = .ok (.invokestatic 9, 3) := by decide +kernel
theorem dL_build_1059 : decode cL_build 1059 = .ok (.goto 4, 3) := by decide +kernel
theorem dL_build_1062 : decode cL_build 1062 = .ok (.iconst 0, 1) := by decide +kernel
theorem dL_build_1063 : decode cL_build 1063 = .ok (.iastore, 1) := by decide +kernel
theorem dL_build_1064 : decode cL_build 1064 = .ok (.aload 8, 2) := by decide +kernel
theorem dL_build_1066 : decode cL_build 1066 = .ok (.iload 14, 2) := by decide +kernel
theorem dL_build_1068 : decode cL_build 1068 = .ok (.iconst 3, 1) := by decide +kernel
theorem dL_build_1069 : decode cL_build 1069 = .ok (.iadd, 1) := by decide +kernel
theorem dL_build_1070 : decode cL_build 1070 = .ok (.iload 15, 2) := by decide +kernel
theorem dL_build_1072 : decode cL_build 1072 = .ok (.iconst 3, 1) := by decide +kernel
theorem dL_build_1073 : decode cL_build 1073 = .ok (.if_icmp .le 8, 3) := by decide +kernel
theorem dL_build_1076 : decode cL_build 1076 = .ok (.iload 16, 2) := by decide +kernel
theorem dL_build_1078 : decode cL_build 1078 = .ok (.goto 4, 3) := by decide +kernel
theorem dL_build_1081 : decode cL_build 1081 = .ok (.iconst (-1), 1) := by decide +kernel
theorem dL_build_1082 : decode cL_build 1082 = .ok (.iastore, 1) := by decide +kernel
theorem dL_build_1083 : decode cL_build 1083 = .ok (.aload 8, 2) := by decide +kernel
theorem dL_build_1085 : decode cL_build 1085 = .ok (.iload 14, 2) := by decide +kernel
theorem dL_build_1087 : decode cL_build 1087 = .ok (.iconst 4, 1) := by decide +kernel
theorem dL_build_1088 : decode cL_build 1088 = .ok (.iadd, 1) := by decide +kernel
theorem dL_build_1089 : decode cL_build 1089 = .ok (.iconst (-1), 1) := by decide +kernel
theorem dL_build_1090 : decode cL_build 1090 = .ok (.iastore, 1) := by decide +kernel
theorem dL_build_1091 : decode cL_build 1091 = .ok (.aload 8, 2) := by decide +kernel
theorem dL_build_1093 : decode cL_build 1093 = .ok (.iload 14, 2) := by decide +kernel
theorem dL_build_1095 : decode cL_build 1095 = .ok (.iconst 5, 1) := by decide +kernel
theorem dL_build_1096 : decode cL_build 1096 = .ok (.iadd, 1) := by decide +kernel
theorem dL_build_1097 : decode cL_build 1097 = .ok (.iconst (-1), 1) := by decide +kernel
theorem dL_build_1098 : decode cL_build 1098 = .ok (.iastore, 1) := by decide +kernel
theorem dL_build_1099 : decode cL_build 1099 = .ok (.iconst 4, 1) := by decide +kernel
theorem dL_build_1100 : decode cL_build 1100 = .ok (.istore 18, 2) := by decide +kernel
theorem dL_build_1102 : decode cL_build 1102 = .ok (.iload 15, 2) := by decide +kernel
theorem dL_build_1104 : decode cL_build 1104 = .ok (.iconst 5, 1) := by decide +kernel
theorem dL_build_1105 : decode cL_build 1105 = .ok (.if_icmp .ne 80, 3) := by decide +kernel
theorem dL_build_1108 : decode cL_build 1108 = .ok (.iload 18, 2) := by decide +kernel
theorem dL_build_1110 : decode cL_build 1110 = .ok (.bipush 6, 2) := by decide +kernel
theorem dL_build_1112 : decode cL_build 1112 = .ok (.if_icmp .ge 73, 3) := by decide +kernel
theorem dL_build_1115 : decode cL_build 1115 = .ok (.iload 12, 2) := by decide +kernel
theorem dL_build_1117 : decode cL_build 1117 = .ok (.bipush 7, 2) := by decide +kernel
theorem dL_build_1119 : decode cL_build 1119 = .ok (.iload 18, 2) := by decide +kernel
theorem dL_build_1121 : decode cL_build 1121 = .ok (.iadd, 1) := by decide +kernel
theorem dL_build_1122 : decode cL_build 1122 = .ok (.ishr, 1) := by decide +kernel
theorem dL_build_1123 : decode cL_build 1123 = .ok (.aload_n 3, 1) := by decide +kernel
theorem dL_build_1124 : decode cL_build 1124 = .ok (.iconst 4, 1) := by decide +kernel
theorem dL_build_1125 : decode cL_build 1125 = .ok (.iaload, 1) := by decide +kernel
theorem dL_build_1126 : decode cL_build 1126 = .ok (.invokestatic 9, 3) := by decide +kernel
theorem dL_build_1129 : decode cL_build 1129 = .ok (.istore 19, 2) := by decide +kernel
theorem dL_build_1131 : decode cL_build 1131 = .ok (.aload 8, 2) := by decide +kernel
theorem dL_build_1133 : decode cL_build 1133 = .ok (.bipush 6, 2) := by decide +kernel
theorem dL_build_1135 : decode cL_build 1135 = .ok (.iload 19, 2) := by decide +kernel
theorem dL_build_1137 : decode cL_build 1137 = .ok (.imul, 1) := by decide +kernel
theorem dL_build_1138 : decode cL_build 1138 = .ok (.iconst 1, 1) := by decide +kernel
theorem dL_build_1139 : decode cL_build 1139 = .ok (.iadd, 1) := by decide +kernel
theorem dL_build_1140 : decode cL_build 1140 = .ok (.iaload, 1) := by decide +kernel
theorem dL_build_1141 : decode cL_build 1141 = .ok (.aload 8, 2) := by decide +kernel
theorem dL_build_1143 : decode cL_build 1143 = .ok (.iload 14, 2) := by decide +kernel
theorem dL_build_1145 : decode cL_build 1145 = .ok (.iconst 1, 1) := by decide +kernel
theorem dL_build_1146 : decode cL_build 1146 = .ok (.iadd, 1) := by decide +kernel
theorem dL_build_1147 : decode cL_build 1147 = .ok (.iaload, 1) := by decide +kernel
theorem dL_build_1148 : decode cL_build 1148 = .ok (.if_icmp .ne 37, 3) := by decide +kernel
theorem dL_build_1151 : decode cL_build 1151 = .ok (.iload 12, 2) := by decide +kernel
theorem dL_build_1153 : decode cL_build 1153 = .ok (.bipush 15, 2) := by decide +kernel
theorem dL_build_1155 : decode cL_build 1155 = .ok (.iload 18, 2) := by decide +kernel
theorem dL_build_1157 : decode cL_build 1157 = .ok (.iadd, 1) := by decide +kernel
theorem dL_build_1158 : decode cL_build 1158 = .ok (.ishr, 1) := by decide +kernel
theorem dL_build_1159 : decode cL_build 1159 = .ok (.iconst 3, 1) := by decide +kernel
theorem dL_build_1160 : decode cL_build 1160 = .ok (.invokestatic 9, 3) := by decide +kernel
theorem dL_build_1163 : decode cL_build 1163 = .ok (.ifCond .ne 6, 3) := by decide +kernel
theorem dL_build_1166 : decode cL_build 1166 = .ok (.goto 19, 3) := by decide +kernel
theorem dL_build_1169 : decode cL_build 1169 = .ok (.aload 8, 2) := by decide +kernel
theorem dL_build_1171 : decode cL_build 1171 = .ok (.iload 14, 2) := by decide +kernel
theorem dL_build_1173 : decode cL_build 1173 = .ok (.iload 18, 2) := by decide +kernel
theorem dL_build_1175 : decode cL_build 1175 = .ok (.iadd, 1) := by decide +kernel
theorem dL_build_1176 : decode cL_build 1176 = .ok (.iload 19, 2) := by decide +kernel
theorem dL_build_1178 : decode cL_build 1178 = .ok (.iastore, 1) := by decide +kernel
theorem dL_build_1179 : decode cL_build 1179 = .ok (.iinc 18 1, 3) := by decide +kernel
theorem dL_build_1182 : decode cL_build 1182 = .ok (.goto (-80), 3) := by decide +kernel
theorem dL_build_1185 : decode cL_build 1185 = .ok (.iload 15, 2) := by decide +kernel
theorem dL_build_1187 : decode cL_build 1187 = .ok (.ifCond .ne 19, 3) := by decide +kernel
theorem dL_build_1190 : decode cL_build 1190 = .ok (.aload_n 0, 1) := by decide +kernel
theorem dL_build_1191 : decode cL_build 1191 = .ok (.iload 13, 2) := by decide +kernel
theorem dL_build_1193 : decode cL_build 1193 = .ok (.aload 8, 2) := by decide +kernel
theorem dL_build_1195 : decode cL_build 1195 = .ok (.iload 14, 2) := by decide +kernel
theorem dL_build_1197 : decode cL_build 1197 = .ok (.iconst 2, 1) := by decide +kernel
theorem dL_build_1198 : decode cL_build 1198 = .ok (.iadd, 1) := by decide +kernel
theorem dL_build_1199 : decode cL_build 1199 = .ok (.iaload, 1) := by decide +kernel
theorem dL_build_1200 : decode cL_build 1200 = .ok (.invokevirtual 44, 3) := by decide +kernel
theorem dL_build_1203 : decode cL_build 1203 = .ok (.goto 100, 3) := by decide +kernel
theorem dL_build_1206 : decode cL_build 1206 = .ok (.iload 15, 2) := by decide +kernel
theorem dL_build_1208 : decode cL_build 1208 = .ok (.iconst 3, 1) := by decide +kernel
theorem dL_build_1209 : decode cL_build 1209 = .ok (.if_icmp .ge 23, 3) := by decide +kernel
theorem dL_build_1212 : decode cL_build 1212 = .ok (.aload_n 0, 1) := by decide +kernel
theorem dL_build_1213 : decode cL_build 1213 = .ok (.iload 13, 2) := by decide +kernel
theorem dL_build_1215 : decode cL_build 1215 = .ok (.iload 15, 2) := by decide +kernel
theorem dL_build_1217 : decode cL_build 1217 = .ok (.iconst 2, 1) := by decide +kernel
theorem dL_build_1218 : decode cL_build 1218 = .ok (.if_icmp .ne 7, 3) := by decide +kernel
theorem dL_build_1221 : decode cL_build 1221 = .ok (.iconst 1, 1) := by decide +kernel
theorem dL_build_1222 : decode cL_build 1222 = .ok (.goto 4, 3) := by decide +kernel
theorem dL_build_1225 : decode cL_build 1225 = .ok (.iconst 0, 1) := by decide +kernel
theorem dL_build_1226 : decode cL_build 1226 = .ok (.invokevirtual 47, 3) := by decide +kernel
theorem dL_build_1229 : decode cL_build 1229 = .ok (.goto 74, 3) := by decide +kernel
theorem dL_build_1232 : decode cL_build 1232 = .ok (.iload 15, 2) := by decide +kernel
theorem dL_build_1234 : decode cL_build 1234 = .ok (.iconst 3, 1) := by decide +kernel
theorem dL_build_1235 : decode cL_build 1235 = .ok (.if_icmp .ne 19, 3) := by decide +kernel
theorem dL_build_1238 : decode cL_build 1238 = .ok (.aload_n 0, 1) := by decide +kernel
theorem dL_build_1239 : decode cL_build 1239 = .ok (.iload 13, 2) := by decide +kernel
theorem dL_build_1241 : decode cL_build 1241 = .ok (.aload 8, 2) := by decide +kernel
theorem dL_build_1243 : decode cL_build 1243 = .ok (.iload 14, 2) := by decide +kernel
theorem dL_build_1245 : decode cL_build 1245 = .ok (.iconst 2, 1) := by decide +kernel
theorem dL_build_1246 : decode cL_build 1246 = .ok (.iadd, 1) := by decide +kernel
theorem dL_build_1247 : decode cL_build 1247 = .ok (.iaload, 1) := by decide +kernel
theorem dL_build_1248 : decode cL_build 1248 = .ok (.invokevirtual 51, 3) := by decide +kernel
theorem dL_build_1251 : decode cL_build 1251 = .ok (.goto 52, 3) := by decide +kernel
theorem dL_build_1254 : decode cL_build 1254 = .ok (.iload 15, 2) := by decide +kernel
theorem dL_build_1256 : decode cL_build 1256 = .ok (.iconst 4, 1) := by decide +kernel
theorem dL_build_1257 : decode cL_build 1257 = .ok (.if_icmp .ne 19, 3) := by decide +kernel
theorem dL_build_1260 : decode cL_build 1260 = .ok (.aload_n 0, 1) := by decide +kernel
theorem dL_build_1261 : decode cL_build 1261 = .ok (.iload 16, 2) := by decide +kernel
theorem dL_build_1263 : decode cL_build 1263 = .ok (.aload 8, 2) := by decide +kernel
theorem dL_build_1265 : decode cL_build 1265 = .ok (.iload 14, 2) := by decide +kernel
theorem dL_build_1267 : decode cL_build 1267 = .ok (.iconst 2, 1) := by decide +kernel
theorem dL_build_1268 : decode cL_build 1268 = .ok (.iadd, 1) := by decide +kernel
theorem dL_build_1269 : decode cL_build 1269 = .ok (.iaload, 1) := by decide +kernel
theorem dL_build_1270 : decode cL_build 1270 = .ok (.invokevirtual 54, 3) := by decide +kernel
theorem dL_build_1273 : decode cL_build 1273 = .ok (.goto 30, 3) := by decide +kernel
theorem dL_build_1276 : decode cL_build 1276 = .ok (.aload_n 0, 1) := by decide +kernel
theorem dL_build_1277 : decode cL_build 1277 = .ok (.iload 16, 2) := by decide +kernel
theorem dL_build_1279 : decode cL_build 1279 = .ok (.aload 8, 2) := by decide +kernel
theorem dL_build_1281 : decode cL_build 1281 = .ok (.iload 14, 2) := by decide +kernel
theorem dL_build_1283 : decode cL_build 1283 = .ok (.iconst 2, 1) := by decide +kernel
theorem dL_build_1284 : decode cL_build 1284 = .ok (.iadd, 1) := by decide +kernel
theorem dL_build_1285 : decode cL_build 1285 = .ok (.iaload, 1) := by decide +kernel
theorem dL_build_1286 : decode cL_build 1286 = .ok (.aload 8, 2) := by decide +kernel
theorem dL_build_1288 : decode cL_build 1288 = .ok (.iload 14, 2) := by decide +kernel
theorem dL_build_1290 : decode cL_build 1290 = .ok (.iconst 4, 1) := by decide +kernel
theorem dL_build_1291 : decode cL_build 1291 = .ok (.iadd, 1) := by decide +kernel
theorem dL_build_1292 : decode cL_build 1292 = .ok (.iaload, 1) := by decide +kernel
theorem dL_build_1293 : decode cL_build 1293 = .ok (.aload 8, 2) := by decide +kernel
theorem dL_build_1295 : decode cL_build 1295 = .ok (.iload 14, 2) := by decide +kernel
theorem dL_build_1297 : decode cL_build 1297 = .ok (.iconst 5, 1) := by decide +kernel
theorem dL_build_1298 : decode cL_build 1298 = .ok (.iadd, 1) := by decide +kernel
theorem dL_build_1299 : decode cL_build 1299 = .ok (.iaload, 1) := by decide +kernel
theorem dL_build_1300 : decode cL_build 1300 = .ok (.invokevirtual 57, 3) := by decide +kernel
theorem dL_build_1303 : decode cL_build 1303 = .ok (.istore 18, 2) := by decide +kernel
theorem dL_build_1305 : decode cL_build 1305 = .ok (.iload 18, 2) := by decide +kernel
theorem dL_build_1307 : decode cL_build 1307 = .ok (.aload_n 3, 1) := by decide +kernel
theorem dL_build_1308 : decode cL_build 1308 = .ok (.iconst 4, 1) := by decide +kernel
theorem dL_build_1309 : decode cL_build 1309 = .ok (.iaload, 1) := by decide +kernel
theorem dL_build_1310 : decode cL_build 1310 = .ok (.if_icmp .eq 5, 3) := by decide +kernel
theorem dL_build_1313 : decode cL_build 1313 = .ok (.iconst 0, 1) := by decide +kernel
theorem dL_build_1314 : decode cL_build 1314 = .ok (.ireturn, 1) := by decide +kernel
theorem dL_build_1315 : decode cL_build 1315 = .ok (.aload_n 3, 1) := by decide +kernel
theorem dL_build_1316 : decode cL_build 1316 = .ok (.iconst 4, 1) := by decide +kernel
theorem dL_build_1317 : decode cL_build 1317 = .ok (.dup2, 1) := by decide +kernel
theorem dL_build_1318 : decode cL_build 1318 = .ok (.iaload, 1) := by decide +kernel
theorem dL_build_1319 : decode cL_build 1319 = .ok (.iconst 1, 1) := by decide +kernel
theorem dL_build_1320 : decode cL_build 1320 = .ok (.iadd, 1) := by decide +kernel
theorem dL_build_1321 : decode cL_build 1321 = .ok (.iastore, 1) := by decide +kernel
theorem dL_build_1322 : decode cL_build 1322 = .ok (.iload 12, 2) := by decide +kernel
theorem dL_build_1324 : decode cL_build 1324 = .ok (.bipush 20, 2) := by decide +kernel
theorem dL_build_1326 : decode cL_build 1326 = .ok (.ishr, 1) := by decide +kernel
theorem dL_build_1327 : decode cL_build 1327 = .ok (.iconst 3, 1) := by decide +kernel
theorem dL_build_1328 : decode cL_build 1328 = .ok (.invokestatic 9, 3) := by decide +kernel
theorem dL_build_1331 : decode cL_build 1331 = .ok (.ifCond .gt 94, 3) := by decide +kernel
theorem dL_build_1334 : decode cL_build 1334 = .ok (.aload_n 3, 1) := by decide +kernel
theorem dL_build_1335 : decode cL_build 1335 = .ok (.iconst 5, 1) := by decide +kernel
theorem dL_build_1336 : decode cL_build 1336 = .ok (.iaload, 1) := by decide +kernel
theorem dL_build_1337 : decode cL_build 1337 = .ok (.bipush 6, 2) := by decide +kernel
theorem dL_build_1339 : decode cL_build 1339 = .ok (.if_icmp .ne 6, 3) := by decide +kernel
theorem dL_build_1342 : decode cL_build 1342 = .ok (.goto 83, 3) := by decide +kernel
theorem dL_build_1345 : decode cL_build 1345 = .ok (.aload 9, 2) := by decide +kernel
theorem dL_build_1347 : decode cL_build 1347 = .ok (.iconst 2, 1) := by decide +kernel
theorem dL_build_1348 : decode cL_build 1348 = .ok (.aload_n 3, 1) := by decide +kernel
theorem dL_build_1349 : decode cL_build 1349 = .ok (.iconst 5, 1) := by decide +kernel
theorem dL_build_1350 : decode cL_build 1350 = .ok (.iaload, 1) := by decide +kernel
theorem dL_build_1351 : decode cL_build 1351 = .ok (.imul, 1) := by decide +kernel
theorem dL_build_1352 : decode cL_build 1352 = .ok (.aload_n 3, 1) := by decide +kernel
theorem dL_build_1353 : decode cL_build 1353 = .ok (.iconst 4, 1) := by decide +kernel
theorem dL_build_1354 : decode cL_build 1354 = .ok (.iaload, 1) := by decide +kernel
theorem dL_build_1355 : decode cL_build 1355 = .ok (.iconst 1, 1) := by decide +kernel
theorem dL_build_1356 : decode cL_build 1356 = .ok (.isub, 1) := by decide +kernel
theorem dL_build_1357 : decode cL_build 1357 = .ok (.iastore, 1) := by decide +kernel
theorem dL_build_1358 : decode cL_build 1358 = .ok (.aload 9, 2) := by decide +kernel
theorem dL_build_1360 : decode cL_build 1360 = .ok (.iconst 2, 1) := by decide +kernel
theorem dL_build_1361 : decode cL_build 1361 = .ok (.aload_n 3, 1) := by decide +kernel
theorem dL_build_1362 : decode cL_build 1362 = .ok (.iconst 5, 1) := by decide +kernel
theorem dL_build_1363 : decode cL_build 1363 = .ok (.iaload, 1) := by decide +kernel
theorem dL_build_1364 : decode cL_build 1364 = .ok (.imul, 1) := by decide +kernel
theorem dL_build_1365 : decode cL_build 1365 = .ok (.iconst 1, 1) := by decide +kernel
theorem dL_build_1366 : decode cL_build 1366 = .ok (.iadd, 1) := by decide +kernel
theorem dL_build_1367 : decode cL_build 1367 = .ok (.iload 12, 2) := by decide +kernel
theorem dL_build_1369 : decode cL_build 1369 = .ok (.iconst 5, 1) := by decide +kernel
theorem dL_build_1370 : decode cL_build 1370 = .ok (.ishr, 1) := by decide +kernel
theorem dL_build_1371 : decode cL_build 1371 = .ok (.invokestatic 25, 3) := by decide +kernel
theorem dL_build_1374 : decode cL_build 1374 = .ok (.iastore, 1) := by decide +kernel
theorem dL_build_1375 : decode cL_build 1375 = .ok (.aload_n 0, 1) := by decide +kernel
theorem dL_build_1376 : decode cL_build 1376 = .ok (.aload_n 3, 1) := by decide +kernel
theorem dL_build_1377 : decode cL_build 1377 = .ok (.iconst 4, 1) := by decide +kernel
theorem dL_build_1378 : decode cL_build 1378 = .ok (.iaload, 1) := by decide +kernel
theorem dL_build_1379 : decode cL_build 1379 = .ok (.iconst 1, 1) := by decide +kernel
theorem dL_build_1380 : decode cL_build 1380 = .ok (.isub, 1) := by decide +kernel
theorem dL_build_1381 : decode cL_build 1381 = .ok (.aload 9, 2) := by decide +kernel
theorem dL_build_1383 : decode cL_build 1383 = .ok (.iconst 2, 1) := by decide +kernel
theorem dL_build_1384 : decode cL_build 1384 = .ok (.aload_n 3, 1) := by decide +kernel
theorem dL_build_1385 : decode cL_build 1385 = .ok (.iconst 5, 1) := by decide +kernel
theorem dL_build_1386 : decode cL_build 1386 = .ok (.iaload, 1) := by decide +kernel
theorem dL_build_1387 : decode cL_build 1387 = .ok (.imul, 1) := by decide +kernel
theorem dL_build_1388 : decode cL_build 1388 = .ok (.iconst 1, 1) := by decide +kernel
theorem dL_build_1389 : decode cL_build 1389 = .ok (.iadd, 1) := by decide +kernel
theorem dL_build_1390 : decode cL_build 1390 = .ok (.iaload, 1) := by decide +kernel
theorem dL_build_1391 : decode cL_build 1391 = .ok (.bipush 16, 2) := by decide +kernel
theorem dL_build_1393 : decode cL_build 1393 = .ok (.idiv, 1) := by decide +kernel
theorem dL_build_1394 : decode cL_build 1394 = .ok (.aload 9, 2) := by decide +kernel
theorem dL_build_1396 : decode cL_build 1396 = .ok (.iconst 2, 1) := by decide +kernel
theorem dL_build_1397 : decode cL_build 1397 = .ok (.aload_n 3, 1) := by decide +kernel
theorem dL_build_1398 : decode cL_build 1398 = .ok (.iconst 5, 1) := by decide +kernel
theorem dL_build_1399 : decode cL_build 1399 = .ok (.iaload, 1) := by decide +kernel
theorem dL_build_1400 : decode cL_build 1400 = .ok (.imul, 1) := by decide +kernel
theorem dL_build_1401 : decode cL_build 1401 = .ok (.iconst 1, 1) := by decide +kernel
theorem dL_build_1402 : decode cL_build 1402 = .ok (.iadd, 1) := by decide +kernel
theorem dL_build_1403 : decode cL_build 1403 = .ok (.iaload, 1) := by decide +kernel
theorem dL_build_1404 : decode cL_build 1404 = .ok (.bipush 16, 2) := by decide +kernel
theorem dL_build_1406 : decode cL_build 1406 = .ok (.irem, 1) := by decide +kernel
theorem dL_build_1407 : decode cL_build 1407 = .ok (.invokevirtual 60, 3) := by decide +kernel
theorem dL_build_1410 : decode cL_build 1410 = .ok (.aload_n 3, 1) := by decide +kernel
theorem dL_build_1411 : decode cL_build 1411 = .ok (.iconst 5, 1) := by decide +kernel
theorem dL_build_1412 : decode cL_build 1412 = .ok (.iaload, 1) := by decide +kernel
theorem dL_build_1413 : decode cL_build 1413 = .ok (.if_icmp .eq 5, 3) := by decide +kernel
theorem dL_build_1416 : decode cL_build 1416 = .ok (.iconst 0, 1) := by decide +kernel
theorem dL_build_1417 : decode cL_build 1417 = .ok (.ireturn, 1) := by decide +kernel
theorem dL_build_1418 : decode cL_build 1418 = .ok (.aload_n 3, 1) := by decide +kernel
theorem dL_build_1419 : decode cL_build 1419 = .ok (.iconst 5, 1) := by decide +kernel
theorem dL_build_1420 : decode cL_build 1420 = .ok (.dup2, 1) := by decide +kernel
theorem dL_build_1421 : decode cL_build 1421 = .ok (.iaload, 1) := by decide +kernel
theorem dL_build_1422 : decode cL_build 1422 = .ok (.iconst 1, 1) := by decide +kernel
theorem dL_build_1423 : decode cL_build 1423 = .ok (.iadd, 1) := by decide +kernel
theorem dL_build_1424 : decode cL_build 1424 = .ok (.iastore, 1) := by decide +kernel
theorem dL_build_1425 : decode cL_build 1425 = .ok (.iinc 11 1, 3) := by decide +kernel
theorem dL_build_1428 : decode cL_build 1428 = .ok (.goto (-633), 3) := by decide +kernel
theorem dL_build_1431 : decode cL_build 1431 = .ok (.iconst 0, 1) := by decide +kernel
theorem dL_build_1432 : decode cL_build 1432 = .ok (.istore 11, 2) := by decide +kernel
theorem dL_build_1434 : decode cL_build 1434 = .ok (.iload 11, 2) := by decide +kernel
theorem dL_build_1436 : decode cL_build 1436 = .ok (.iconst 5, 1) := by decide +kernel
theorem dL_build_1437 : decode cL_build 1437 = .ok (.if_icmp .ge 46, 3) := by decide +kernel
theorem dL_build_1440 : decode cL_build 1440 = .ok (.aload_n 0, 1) := by decide +kernel
theorem dL_build_1441 : decode cL_build 1441 = .ok (.iload 11, 2) := by decide +kernel
theorem dL_build_1443 : decode cL_build 1443 = .ok (.invokevirtual 63, 3) := by decide +kernel
theorem dL_build_1446 : decode cL_build 1446 = .ok (.aload_n 3, 1) := by decide +kernel
theorem dL_build_1447 : decode cL_build 1447 = .ok (.iload 11, 2) := by decide +kernel
theorem dL_build_1449 : decode cL_build 1449 = .ok (.iconst 4, 1) := by decide +kernel
theorem dL_build_1450 : decode cL_build 1450 = .ok (.if_icmp .ne 7, 3) := by decide +kernel
theorem dL_build_1453 : decode cL_build 1453 = .ok (.iconst 4, 1) := by decide +kernel
theorem dL_build_1454 : decode cL_build 1454 = .ok (.goto 17, 3) := by decide +kernel
theorem dL_build_1457 : decode cL_build 1457 = .ok (.iload 11, 2) := by decide +kernel
theorem dL_build_1459 : decode cL_build 1459 = .ok (.iconst 3, 1) := by decide +kernel
theorem dL_build_1460 : decode cL_build 1460 = .ok (.if_icmp .ne 7, 3) := by decide +kernel
theorem dL_build_1463 : decode cL_build 1463 = .ok (.iconst 5, 1) := by decide +kernel
theorem dL_build_1464 : decode cL_build 1464 = .ok (.goto 7, 3) := by decide +kernel
theorem dL_build_1467 : decode cL_build 1467 = .ok (.iload 11, 2) := by decide +kernel
theorem dL_build_1469 : decode cL_build 1469 = .ok (.iconst 1, 1) := by decide +kernel
theorem dL_build_1470 : decode cL_build 1470 = .ok (.iadd, 1) := by decide +kernel
theorem dL_build_1471 : decode cL_build 1471 = .ok (.iaload, 1) := by decide +kernel
theorem dL_build_1472 : decode cL_build 1472 = .ok (.if_icmp .eq 5, 3) := by decide +kernel
theorem dL_build_1475 : decode cL_build 1475 = .ok (.iconst 0, 1) := by decide +kernel
theorem dL_build_1476 : decode cL_build 1476 = .ok (.ireturn, 1) := by decide +kernel
theorem dL_build_1477 : decode cL_build 1477 = .ok (.iinc 11 1, 3) := by decide +kernel
theorem dL_build_1480 : decode cL_build 1480 = .ok (.goto (-46), 3) := by decide +kernel
theorem dL_build_1483 : decode cL_build 1483 = .ok (.iconst 1, 1) := by decide +kernel
theorem dL_build_1484 : decode cL_build 1484 = .ok (.ireturn, 1) := by decide +kernel
theorem dL_isTrue_0 : decode cL_isTrue 0 = .ok (.iload_n 0, 1) := by decide +kernel
theorem dL_isTrue_1 : decode cL_isTrue 1 = .ok (.bipush 16, 2) := by decide +kernel
theorem dL_isTrue_3 : decode cL_isTrue 3 = .ok (.idiv, 1) := by decide +kernel
theorem dL_isTrue_4 : decode cL_isTrue 4 = .ok (.iload_n 1, 1) := by decide +kernel
theorem dL_isTrue_5 : decode cL_isTrue 5 = .ok (.iconst (-1), 1) := by decide +kernel
theorem dL_isTrue_6 : decode cL_isTrue 6 = .ok (.ixor, 1) := by decide +kernel
theorem dL_isTrue_7 : decode cL_isTrue 7 = .ok (.iand, 1) := by decide +kernel
theorem dL_isTrue_8 : decode cL_isTrue 8 = .ok (.ifCond .ne 16, 3) := by decide +kernel
theorem dL_isTrue_11 : decode cL_isTrue 11 = .ok (.iload_n 0, 1) := by decide +kernel
theorem dL_isTrue_12 : decode cL_isTrue 12 = .ok (.bipush 16, 2) := by decide +kernel
theorem dL_isTrue_14 : decode cL_isTrue 14 = .ok (.irem, 1) := by decide +kernel
theorem dL_isTrue_15 : decode cL_isTrue 15 = .ok (.iload_n 1, 1) := by decide +kernel
theorem dL_isTrue_16 : decode cL_isTrue 16 = .ok (.iand, 1) := by decide +kernel
theorem dL_isTrue_17 : decode cL_isTrue 17 = .ok (.ifCond .ne 7, 3) := by decide +kernel
theorem dL_isTrue_20 : decode cL_isTrue 20 = .ok (.iconst 1, 1) := by decide +kernel
theorem dL_isTrue_21 : decode cL_isTrue 21 = .ok (.goto 4, 3) := by decide +kernel
theorem dL_isTrue_24 : decode cL_isTrue 24 = .ok (.iconst 0, 1) := by decide +kernel
theorem dL_isTrue_25 : decode cL_isTrue 25 = .ok (.ireturn, 1) := by decide +kernel
theorem dL_isProduct_0 : decode cL_isProduct 0 = .ok (.iconst 1, 1) := by decide +kernel
theorem dL_isProduct_1 : decode cL_isProduct 1 = .ok (.istore_n 3, 1) := by decide +kernel
theorem dL_isProduct_2 : decode cL_isProduct 2 = .ok (.iconst 0, 1) := by decide +kernel
theorem dL_isProduct_3 : decode cL_isProduct 3 = .ok (.istore 4, 2) := by decide +kernel
theorem dL_isProduct_5 : decode cL_isProduct 5 = .ok (.iload 4, 2) := by decide +kernel
theorem dL_isProduct_7 : decode cL_isProduct 7 = .ok (.aload_n 1, 1) := by decide +kernel
theorem dL_isProduct_8 : decode cL_isProduct 8 = .ok (.iconst 0, 1) := by decide +kernel
theorem dL_isProduct_9 : decode cL_isProduct 9 = .ok (.iaload, 1) := by decide +kernel
theorem dL_isProduct_10 : decode cL_isProduct 10 = .ok (.if_icmp .ge 103, 3) := by decide +kernel
theorem dL_isProduct_13 : decode cL_isProduct 13 = .ok (.iload_n 0, 1) := by decide +kernel
theorem dL_isProduct_14 : decode cL_isProduct 14 = .ok (.aload_n 2, 1) := by decide +kernel
theorem dL_isProduct_15 : decode cL_isProduct 15 = .ok (.iconst 3, 1) := by decide +kernel
theorem dL_isProduct_16 : decode cL_isProduct 16 = .ok (.iload 4, 2) := by decide +kernel
theorem dL_isProduct_18 : decode cL_isProduct 18 = .ok (.imul, 1) := by decide +kernel
theorem dL_isProduct_19 : decode cL_isProduct 19 = .ok (.iconst 1, 1) := by decide +kernel
theorem dL_isProduct_20 : decode cL_isProduct 20 = .ok (.iadd, 1) := by decide +kernel
theorem dL_isProduct_21 : decode cL_isProduct 21 = .ok (.iaload, 1) := by decide +kernel
theorem dL_isProduct_22 : decode cL_isProduct 22 = .ok (.ishr, 1) := by decide +kernel
theorem dL_isProduct_23 : decode cL_isProduct 23 = .ok (.iload_n 0, 1) := by decide +kernel
theorem dL_isProduct_24 : decode cL_isProduct 24 = .ok (.aload_n 2, 1) := by decide +kernel
theorem dL_isProduct_25 : decode cL_isProduct 25 = .ok (.iconst 3, 1) := by decide +kernel
theorem dL_isProduct_26 : decode cL_isProduct 26 = .ok (.iload 4, 2) := by decide +kernel
theorem dL_isProduct_28 : decode cL_isProduct 28 = .ok (.imul, 1) := by decide +kernel
theorem dL_isProduct_29 : decode cL_isProduct 29 = .ok (.iconst 2, 1) := by decide +kernel
theorem dL_isProduct_30 : decode cL_isProduct 30 = .ok (.iadd, 1) := by decide +kernel
theorem dL_isProduct_31 : decode cL_isProduct 31 = .ok (.iaload, 1) := by decide +kernel
theorem dL_isProduct_32 : decode cL_isProduct 32 = .ok (.ishr, 1) := by decide +kernel
theorem dL_isProduct_33 : decode cL_isProduct 33 = .ok (.iand, 1) := by decide +kernel
theorem dL_isProduct_34 : decode cL_isProduct 34 = .ok (.iconst 1, 1) := by decide +kernel
theorem dL_isProduct_35 : decode cL_isProduct 35 = .ok (.iand, 1) := by decide +kernel
theorem dL_isProduct_36 : decode cL_isProduct 36 = .ok (.iconst 1, 1) := by decide +kernel
theorem dL_isProduct_37 : decode cL_isProduct 37 = .ok (.if_icmp .ne 7, 3) := by decide +kernel
theorem dL_isProduct_40 : decode cL_isProduct 40 = .ok (.iconst 1, 1) := by decide +kernel
theorem dL_isProduct_41 : decode cL_isProduct 41 = .ok (.goto 4, 3) := by decide +kernel
theorem dL_isProduct_44 : decode cL_isProduct 44 = .ok (.iconst 0, 1) := by decide +kernel
theorem dL_isProduct_45 : decode cL_isProduct 45 = .ok (.istore 5, 2) := by decide +kernel
theorem dL_isProduct_47 : decode cL_isProduct 47 = .ok (.iload_n 0, 1) := by decide +kernel
theorem dL_isProduct_48 : decode cL_isProduct 48 = .ok (.aload_n 2, 1) := by decide +kernel
theorem dL_isProduct_49 : decode cL_isProduct 49 = .ok (.iconst 3, 1) := by decide +kernel
theorem dL_isProduct_50 : decode cL_isProduct 50 = .ok (.iload 4, 2) := by decide +kernel
theorem dL_isProduct_52 : decode cL_isProduct 52 = .ok (.imul, 1) := by decide +kernel
theorem dL_isProduct_53 : decode cL_isProduct 53 = .ok (.iconst 1, 1) := by decide +kernel
theorem dL_isProduct_54 : decode cL_isProduct 54 = .ok (.iadd, 1) := by decide +kernel
theorem dL_isProduct_55 : decode cL_isProduct 55 = .ok (.iaload, 1) := by decide +kernel
theorem dL_isProduct_56 : decode cL_isProduct 56 = .ok (.ishr, 1) := by decide +kernel
theorem dL_isProduct_57 : decode cL_isProduct 57 = .ok (.iconst 1, 1) := by decide +kernel
theorem dL_isProduct_58 : decode cL_isProduct 58 = .ok (.iand, 1) := by decide +kernel
theorem dL_isProduct_59 : decode cL_isProduct 59 = .ok (.iconst 1, 1) := by decide +kernel
theorem dL_isProduct_60 : decode cL_isProduct 60 = .ok (.if_icmp .ne 7, 3) := by decide +kernel
theorem dL_isProduct_63 : decode cL_isProduct 63 = .ok (.iconst 1, 1) := by decide +kernel
theorem dL_isProduct_64 : decode cL_isProduct 64 = .ok (.goto 4, 3) := by decide +kernel
theorem dL_isProduct_67 : decode cL_isProduct 67 = .ok (.iconst 0, 1) := by decide +kernel
theorem dL_isProduct_68 : decode cL_isProduct 68 = .ok (.istore 6, 2) := by decide +kernel
theorem dL_isProduct_70 : decode cL_isProduct 70 = .ok (.iload_n 3, 1) := by decide +kernel
theorem dL_isProduct_71 : decode cL_isProduct 71 = .ok (.ifCond .eq 34, 3) := by decide +kernel
theorem dL_isProduct_74 : decode cL_isProduct 74 = .ok (.aload_n 2, 1) := by decide +kernel
theorem dL_isProduct_75 : decode cL_isProduct 75 = .ok (.iconst 3, 1) := by decide +kernel
theorem dL_isProduct_76 : decode cL_isProduct 76 = .ok (.iload 4, 2) := by decide +kernel
theorem dL_isProduct_78 : decode cL_isProduct 78 = .ok (.imul, 1) := by decide +kernel
theorem dL_isProduct_79 : decode cL_isProduct 79 = .ok (.iaload, 1) := by decide +kernel
theorem dL_isProduct_80 : decode cL_isProduct 80 = .ok (.ifCond .ne 16, 3) := by decide +kernel
theorem dL_isProduct_83 : decode cL_isProduct 83 = .ok (.iload 6, 2) := by decide +kernel
theorem dL_isProduct_85 : decode cL_isProduct 85 = .ok (.ifCond .eq 16, 3) := by decide +kernel
theorem dL_isProduct_88 : decode cL_isProduct 88 = .ok (.iload 5, 2) := by decide +kernel
theorem dL_isProduct_90 : decode cL_isProduct 90 = .ok (.ifCond .ne 11, 3) := by decide +kernel
theorem dL_isProduct_93 : decode cL_isProduct 93 = .ok (.goto 12, 3) := by decide +kernel
theorem dL_isProduct_96 : decode cL_isProduct 96 = .ok (.iload 5, 2) := by decide +kernel
theorem dL_isProduct_98 : decode cL_isProduct 98 = .ok (.ifCond .ne 7, 3) := by decide +kernel
theorem dL_isProduct_101 : decode cL_isProduct 101 = .ok (.iconst 1, 1) := by decide +kernel
theorem dL_isProduct_102 : decode cL_isProduct 102 = .ok (.goto 4, 3) := by decide +kernel
theorem dL_isProduct_105 : decode cL_isProduct 105 = .ok (.iconst 0, 1) := by decide +kernel
theorem dL_isProduct_106 : decode cL_isProduct 106 = .ok (.istore_n 3, 1) := by decide +kernel
theorem dL_isProduct_107 : decode cL_isProduct 107 = .ok (.iinc 4 1, 3) := by decide +kernel
theorem dL_isProduct_110 : decode cL_isProduct 110 = .ok (.goto (-105), 3) := by decide +kernel
theorem dL_isProduct_113 : decode cL_isProduct 113 = .ok (.iload_n 3, 1) := by decide +kernel
theorem dL_isProduct_114 : decode cL_isProduct 114 = .ok (.ireturn, 1) := by decide +kernel
