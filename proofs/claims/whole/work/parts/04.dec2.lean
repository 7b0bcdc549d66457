theorem dX8_addMethod_88 : decode cX8_addMethod 88 = .ok (.if_icmp .lt 13, 3) := by decide +kernel
theorem dX8_addMethod_91 : decode cX8_addMethod 91 = .ok (.new 56, 3) := by decide +kernel
theorem dX8_addMethod_94 : decode cX8_addMethod 94 = .ok (.dup, 1) := by decide +kernel
theorem dX8_addMethod_95 : decode cX8_addMethod 95 = .ok (.ldc 123, 2) := by decide +kernel
theorem dX8_addMethod_97 : decode cX8_addMethod 97 = .ok (.invokespecial 60, 3) := by decide +kernel
theorem dX8_addMethod_100 : decode cX8_addMethod 100 = .ok (.athrow, 1) := by decide +kernel
theorem dX8_addMethod_101 : decode cX8_addMethod 101 = .ok (.aload_n 0, 1) := by decide +kernel
theorem dX8_addMethod_102 : decode cX8_addMethod 102 = .ok (.getfield 19, 3) := by decide +kernel
theorem dX8_addMethod_105 : decode cX8_addMethod 105 = .ok (.getfield 116, 3) := by decide +kernel
theorem dX8_addMethod_108 : decode cX8_addMethod 108 = .ok (.iconst 1, 1) := by decide +kernel
theorem dX8_addMethod_109 : decode cX8_addMethod 109 = .ok (.iload_n 1, 1) := by decide +kernel
theorem dX8_addMethod_110 : decode cX8_addMethod 110 = .ok (.iload_n 2, 1) := by decide +kernel
theorem dX8_addMethod_111 : decode cX8_addMethod 111 = .ok (.iload 6, 2) := by decide +kernel
theorem dX8_addMethod_113 : decode cX8_addMethod 113 = .ok (.iload 7, 2) := by decide +kernel
theorem dX8_addMethod_115 : decode cX8_addMethod 115 = .ok (.invokevirtual 125, 3) := by decide +kernel
theorem dX8_addMethod_118 : decode cX8_addMethod 118 = .ok (.istore 8, 2) := by decide +kernel
theorem dX8_addMethod_120 : decode cX8_addMethod 120 = .ok (.aload_n 0, 1) := by decide +kernel
theorem dX8_addMethod_121 : decode cX8_addMethod 121 = .ok (.getfield 19, 3) := by decide +kernel
theorem dX8_addMethod_124 : decode cX8_addMethod 124 = .ok (.getfield 116, 3) := by decide +kernel
theorem dX8_addMethod_127 : decode cX8_addMethod 127 = .ok (.iload 8, 2) := by decide +kernel
theorem dX8_addMethod_129 : decode cX8_addMethod 129 = .ok (.iload_n 3, 1) := by decide +kernel
theorem dX8_addMethod_130 : decode cX8_addMethod 130 = .ok (.iload 4, 2) := by decide +kernel
theorem dX8_addMethod_132 : decode cX8_addMethod 132 = .ok (.iload 5, 2) := by decide +kernel
theorem dX8_addMethod_134 : decode cX8_addMethod 134 = .ok (.invokevirtual 128, 3) := by decide +kernel
theorem dX8_addMethod_137 : decode cX8_addMethod 137 = .ok (.iload 8, 2) := by decide +kernel
theorem dX8_addMethod_139 : decode cX8_addMethod 139 = .ok (.ireturn, 1) := by decide +kernel
set_option maxRecDepth 20000 in
theorem ggX8_addNew_X3_hasMethod : GoodIn wsX8_addNew wsX3_hasMethod := goodIn_r _ [13, 14, 15, 16, 17, 18, 19, 20, 21, 22, 23, 24, 25, 26, 27, 65, 66, 67, 68, 69, 70, 71, 72, 73, 74, 75, 76] (by decide +kernel) (by decide +kernel)
set_option maxRecDepth 20000 in
theorem gX8_addNew_X3_hasMethod : GoodIn wsX8_addNew (wsV RX8 135 RX3 yX3_hasMethod wsX3_hasMethod) := goodIn_app (goodIn_of _ (by decide +kernel)) ggX8_addNew_X3_hasMethod
set_option maxRecDepth 20000 in
theorem ggX8_addNew_X0_has : GoodIn wsX8_addNew wsX0_has := goodIn_r _ [20, 21, 72, 73, 74, 75] (by decide +kernel) (by decide +kernel)
set_option maxRecDepth 20000 in
theorem gX8_addNew_X0_has : GoodIn wsX8_addNew (wsV RX8 91 RX0 yX0_has wsX0_has) := goodIn_app (goodIn_of _ (by decide +kernel)) ggX8_addNew_X0_has
set_option maxRecDepth 20000 in
theorem ggX8_addNew_X1_size : GoodIn wsX8_addNew wsX1_size := goodIn_r _ [33, 34, 77, 78, 79, 80, 81, 82, 83] (by decide +kernel) (by decide +kernel)
set_option maxRecDepth 20000 in
theorem gX8_addNew_X1_size : GoodIn wsX8_addNew (wsV RX8 144 RX1 yX1_size wsX1_size) := goodIn_app (goodIn_of _ (by decide +kernel)) ggX8_addNew_X1_size
set_option maxRecDepth 20000 in
theorem ggX8_addNew_X1_append : GoodIn wsX8_addNew wsX1_append := goodIn_r _ [38, 34, 39, 40, 41, 42, 43, 44, 25, 45, 27, 46, 47, 48, 32, 49, 50, 51, 52, 77, 78, 79, 80, 81, 82, 83, 76] (by decide +kernel) (by decide +kernel)
set_option maxRecDepth 20000 in
theorem gX8_addNew_X1_append : GoodIn wsX8_addNew (wsV RX8 149 RX1 yX1_append wsX1_append) := goodIn_app (goodIn_of _ (by decide +kernel)) ggX8_addNew_X1_append
theorem dX8_addNew_0 : decode cX8_addNew 0 = .ok (.aload_n 0, 1) := by decide +kernel
theorem dX8_addNew_1 : decode cX8_addNew 1 = .ok (.getfield 19, 3) := by decide +kernel
theorem dX8_addNew_4 : decode cX8_addNew 4 = .ok (.getfield 116, 3) := by decide +kernel
theorem dX8_addNew_7 : decode cX8_addNew 7 = .ok (.iload_n 1, 1) := by decide +kernel
theorem dX8_addNew_8 : decode cX8_addNew 8 = .ok (.invokevirtual 135, 3) := by decide +kernel
theorem dX8_addNew_11 : decode cX8_addNew 11 = .ok (.ifCond .eq 17, 3) := by decide +kernel
theorem dX8_addNew_14 : decode cX8_addNew 14 = .ok (.aload_n 0, 1) := by decide +kernel
theorem dX8_addNew_15 : decode cX8_addNew 15 = .ok (.getfield 19, 3) := by decide +kernel
theorem dX8_addNew_18 : decode cX8_addNew 18 = .ok (.getfield 79, 3) := by decide +kernel
theorem dX8_addNew_21 : decode cX8_addNew 21 = .ok (.iload_n 2, 1) := by decide +kernel
theorem dX8_addNew_22 : decode cX8_addNew 22 = .ok (.invokevirtual 91, 3) := by decide +kernel
theorem dX8_addNew_25 : decode cX8_addNew 25 = .ok (.ifCond .ne 13, 3) := by decide +kernel
theorem dX8_addNew_28 : decode cX8_addNew 28 = .ok (.new 94, 3) := by decide +kernel
theorem dX8_addNew_31 : decode cX8_addNew 31 = .ok (.dup, 1) := by decide +kernel
theorem dX8_addNew_32 : decode cX8_addNew 32 = .ok (.ldc 138, 2) := by decide +kernel
theorem dX8_addNew_34 : decode cX8_addNew 34 = .ok (.invokespecial 98, 3) := by decide +kernel
theorem dX8_addNew_37 : decode cX8_addNew 37 = .ok (.athrow, 1) := by decide +kernel
theorem dX8_addNew_38 : decode cX8_addNew 38 = .ok (.aload_n 0, 1) := by decide +kernel
theorem dX8_addNew_39 : decode cX8_addNew 39 = .ok (.getfield 19, 3) := by decide +kernel
theorem dX8_addNew_42 : decode cX8_addNew 42 = .ok (.getfield 140, 3) := by decide +kernel
theorem dX8_addNew_45 : decode cX8_addNew 45 = .ok (.invokevirtual 144, 3) := by decide +kernel
theorem dX8_addNew_48 : decode cX8_addNew 48 = .ok (.bipush 50, 2) := by decide +kernel
theorem dX8_addNew_50 : decode cX8_addNew 50 = .ok (.if_icmp .lt 13, 3) := by decide +kernel
theorem dX8_addNew_53 : decode cX8_addNew 53 = .ok (.new 56, 3) := by decide +kernel
theorem dX8_addNew_56 : decode cX8_addNew 56 = .ok (.dup, 1) := by decide +kernel
theorem dX8_addNew_57 : decode cX8_addNew 57 = .ok (.ldc 147, 2) := by decide +kernel
theorem dX8_addNew_59 : decode cX8_addNew 59 = .ok (.invokespecial 60, 3) := by decide +kernel
theorem dX8_addNew_62 : decode cX8_addNew 62 = .ok (.athrow, 1) := by decide +kernel
theorem dX8_addNew_63 : decode cX8_addNew 63 = .ok (.aload_n 0, 1) := by decide +kernel
theorem dX8_addNew_64 : decode cX8_addNew 64 = .ok (.getfield 19, 3) := by decide +kernel
theorem dX8_addNew_67 : decode cX8_addNew 67 = .ok (.getfield 140, 3) := by decide +kernel
theorem dX8_addNew_70 : decode cX8_addNew 70 = .ok (.iconst 0, 1) := by decide +kernel
theorem dX8_addNew_71 : decode cX8_addNew 71 = .ok (.iload_n 1, 1) := by decide +kernel
theorem dX8_addNew_72 : decode cX8_addNew 72 = .ok (.iload_n 2, 1) := by decide +kernel
theorem dX8_addNew_73 : decode cX8_addNew 73 = .ok (.invokevirtual 149, 3) := by decide +kernel
theorem dX8_addNew_76 : decode cX8_addNew 76 = .ok (.ireturn, 1) := by decide +kernel
set_option maxRecDepth 20000 in
theorem ggX8_addPlain_X3_hasMethod : GoodIn wsX8_addPlain wsX3_hasMethod := goodIn_r _ [12, 13, 14, 15, 16, 17, 18, 19, 20, 21, 22, 23, 24, 25, 26, 63, 64, 65, 66, 67, 68, 69, 70, 71, 72, 73, 74] (by decide +kernel) (by decide +kernel)
set_option maxRecDepth 20000 in
theorem gX8_addPlain_X3_hasMethod : GoodIn wsX8_addPlain (wsV RX8 135 RX3 yX3_hasMethod wsX3_hasMethod) := goodIn_app (goodIn_of _ (by decide +kernel)) ggX8_addPlain_X3_hasMethod
set_option maxRecDepth 20000 in
theorem ggX8_addPlain_X1_size : GoodIn wsX8_addPlain wsX1_size := goodIn_r _ [31, 32, 75, 76, 77, 78, 79, 80, 81] (by decide +kernel) (by decide +kernel)
set_option maxRecDepth 20000 in
theorem gX8_addPlain_X1_size : GoodIn wsX8_addPlain (wsV RX8 144 RX1 yX1_size wsX1_size) := goodIn_app (goodIn_of _ (by decide +kernel)) ggX8_addPlain_X1_size
set_option maxRecDepth 20000 in
theorem ggX8_addPlain_X1_append : GoodIn wsX8_addPlain wsX1_append := goodIn_r _ [36, 32, 37, 38, 39, 40, 41, 42, 24, 43, 26, 44, 45, 46, 30, 47, 48, 49, 50, 75, 76, 77, 78, 79, 80, 81, 74] (by decide +kernel) (by decide +kernel)
set_option maxRecDepth 20000 in
theorem gX8_addPlain_X1_append : GoodIn wsX8_addPlain (wsV RX8 149 RX1 yX1_append wsX1_append) := goodIn_app (goodIn_of _ (by decide +kernel)) ggX8_addPlain_X1_append
theorem dX8_addPlain_0 : decode cX8_addPlain 0 = .ok (.aload_n 0, 1) := by decide +kernel
theorem dX8_addPlain_1 : decode cX8_addPlain 1 = .ok (.getfield 19, 3) := by decide +kernel
theorem dX8_addPlain_4 : decode cX8_addPlain 4 = .ok (.getfield 116, 3) := by decide +kernel
theorem dX8_addPlain_7 : decode cX8_addPlain 7 = .ok (.iload_n 1, 1) := by decide +kernel
theorem dX8_addPlain_8 : decode cX8_addPlain 8 = .ok (.invokevirtual 135, 3) := by decide +kernel
theorem dX8_addPlain_11 : decode cX8_addPlain 11 = .ok (.ifCond .ne 13, 3) := by decide +kernel
theorem dX8_addPlain_14 : decode cX8_addPlain 14 = .ok (.new 94, 3) := by decide +kernel
theorem dX8_addPlain_17 : decode cX8_addPlain 17 = .ok (.dup, 1) := by decide +kernel
theorem dX8_addPlain_18 : decode cX8_addPlain 18 = .ok (.ldc 152, 2) := by decide +kernel
theorem dX8_addPlain_20 : decode cX8_addPlain 20 = .ok (.invokespecial 98, 3) := by decide +kernel
theorem dX8_addPlain_23 : decode cX8_addPlain 23 = .ok (.athrow, 1) := by decide +kernel
theorem dX8_addPlain_24 : decode cX8_addPlain 24 = .ok (.aload_n 0, 1) := by decide +kernel
theorem dX8_addPlain_25 : decode cX8_addPlain 25 = .ok (.getfield 19, 3) := by decide +kernel
theorem dX8_addPlain_28 : decode cX8_addPlain 28 = .ok (.getfield 140, 3) := by decide +kernel
theorem dX8_addPlain_31 : decode cX8_addPlain 31 = .ok (.invokevirtual 144, 3) := by decide +kernel
theorem dX8_addPlain_34 : decode cX8_addPlain 34 = .ok (.bipush 50, 2) := by decide +kernel
theorem dX8_addPlain_36 : decode cX8_addPlain 36 = .ok (.if_icmp .lt 13, 3) := by decide +kernel
theorem dX8_addPlain_39 : decode cX8_addPlain 39 = .ok (.new 56, 3) := by decide +kernel
theorem dX8_addPlain_42 : decode cX8_addPlain 42 = .ok (.dup, 1) := by decide +kernel
theorem dX8_addPlain_43 : decode cX8_addPlain 43 = .ok (.ldc 147, 2) := by decide +kernel
theorem dX8_addPlain_45 : decode cX8_addPlain 45 = .ok (.invokespecial 60, 3) := by decide +kernel
theorem dX8_addPlain_48 : decode cX8_addPlain 48 = .ok (.athrow, 1) := by decide +kernel
theorem dX8_addPlain_49 : decode cX8_addPlain 49 = .ok (.aload_n 0, 1) := by decide +kernel
theorem dX8_addPlain_50 : decode cX8_addPlain 50 = .ok (.getfield 19, 3) := by decide +kernel
theorem dX8_addPlain_53 : decode cX8_addPlain 53 = .ok (.getfield 140, 3) := by decide +kernel
theorem dX8_addPlain_56 : decode cX8_addPlain 56 = .ok (.iload_n 2, 1) := by decide +kernel
theorem dX8_addPlain_57 : decode cX8_addPlain 57 = .ok (.ifCond .eq 7, 3) := by decide +kernel
theorem dX8_addPlain_60 : decode cX8_addPlain 60 = .ok (.iconst 2, 1) := by decide +kernel
theorem dX8_addPlain_61 : decode cX8_addPlain 61 = .ok (.goto 4, 3) := by decide +kernel
theorem dX8_addPlain_64 : decode cX8_addPlain 64 = .ok (.iconst 1, 1) := by decide +kernel
theorem dX8_addPlain_65 : decode cX8_addPlain 65 = .ok (.iload_n 1, 1) := by decide +kernel
theorem dX8_addPlain_66 : decode cX8_addPlain 66 = .ok (.iconst (-1), 1) := by decide +kernel
theorem dX8_addPlain_67 : decode cX8_addPlain 67 = .ok (.invokevirtual 149, 3) := by decide +kernel
theorem dX8_addPlain_70 : decode cX8_addPlain 70 = .ok (.ireturn, 1) := by decide +kernel
set_option maxRecDepth 20000 in
theorem ggX8_addArgument_X3_hasMethod : GoodIn wsX8_addArgument wsX3_hasMethod := goodIn_r _ [12, 13, 14, 15, 16, 17, 18, 19, 20, 21, 22, 23, 24, 25, 26, 69, 70, 71, 72, 73, 74, 75, 76, 77, 78, 79, 80] (by decide +kernel) (by decide +kernel)
set_option maxRecDepth 20000 in
theorem gX8_addArgument_X3_hasMethod : GoodIn wsX8_addArgument (wsV RX8 135 RX3 yX3_hasMethod wsX3_hasMethod) := goodIn_app (goodIn_of _ (by decide +kernel)) ggX8_addArgument_X3_hasMethod
set_option maxRecDepth 20000 in
theorem ggX8_addArgument_X3_parameter : GoodIn wsX8_addArgument wsX3_parameter := goodIn_r _ [30, 31, 32, 21, 22, 23, 24, 25, 26, 69, 70, 71, 72, 73, 74, 75, 80] (by decide +kernel) (by decide +kernel)
set_option maxRecDepth 20000 in
theorem gX8_addArgument_X3_parameter : GoodIn wsX8_addArgument (wsV RX8 154 RX3 yX3_parameter wsX3_parameter) := goodIn_app (goodIn_of _ (by decide +kernel)) ggX8_addArgument_X3_parameter
set_option maxRecDepth 20000 in
theorem ggX8_addArgument_X1_size : GoodIn wsX8_addArgument wsX1_size := goodIn_r _ [37, 38, 81, 82, 83, 84, 85, 86, 87] (by decide +kernel) (by decide +kernel)
set_option maxRecDepth 20000 in
theorem gX8_addArgument_X1_size : GoodIn wsX8_addArgument (wsV RX8 144 RX1 yX1_size wsX1_size) := goodIn_app (goodIn_of _ (by decide +kernel)) ggX8_addArgument_X1_size
set_option maxRecDepth 20000 in
theorem ggX8_addArgument_X1_append : GoodIn wsX8_addArgument wsX1_append := goodIn_r _ [42, 38, 43, 44, 45, 46, 47, 48, 24, 49, 26, 50, 51, 52, 36, 53, 54, 55, 56, 81, 82, 83, 84, 85, 86, 87, 80] (by decide +kernel) (by decide +kernel)
set_option maxRecDepth 20000 in
theorem gX8_addArgument_X1_append : GoodIn wsX8_addArgument (wsV RX8 149 RX1 yX1_append wsX1_append) := goodIn_app (goodIn_of _ (by decide +kernel)) ggX8_addArgument_X1_append
theorem dX8_addArgument_0 : decode cX8_addArgument 0 = .ok (.aload_n 0, 1) := by decide +kernel
theorem dX8_addArgument_1 : decode cX8_addArgument 1 = .ok (.getfield 19, 3) := by decide +kernel
theorem dX8_addArgument_4 : decode cX8_addArgument 4 = .ok (.getfield 116, 3) := by decide +kernel
theorem dX8_addArgument_7 : decode cX8_addArgument 7 = .ok (.iload_n 1, 1) := by decide +kernel
theorem dX8_addArgument_8 : decode cX8_addArgument 8 = .ok (.invokevirtual 135, 3) := by decide +kernel
theorem dX8_addArgument_11 : decode cX8_addArgument 11 = .ok (.ifCond .eq 19, 3) := by decide +kernel
theorem dX8_addArgument_14 : decode cX8_addArgument 14 = .ok (.aload_n 0, 1) := by decide +kernel
theorem dX8_addArgument_15 : decode cX8_addArgument 15 = .ok (.getfield 19, 3) := by decide +kernel
theorem dX8_addArgument_18 : decode cX8_addArgument 18 = .ok (.getfield 116, 3) := by decide +kernel
theorem dX8_addArgument_21 : decode cX8_addArgument 21 = .ok (.iload_n 1, 1) := by decide +kernel
theorem dX8_addArgument_22 : decode cX8_addArgument 22 = .ok (.iload_n 2, 1) := by decide +kernel
theorem dX8_addArgument_23 : decode cX8_addArgument 23 = .ok (.invokevirtual 154, 3) := by decide +kernel
theorem dX8_addArgument_26 : decode cX8_addArgument 26 = .ok (.iconst (-1), 1) := by decide +kernel
theorem dX8_addArgument_27 : decode cX8_addArgument 27 = .ok (.if_icmp .ne 13, 3) := by decide +kernel
theorem dX8_addArgument_30 : decode cX8_addArgument 30 = .ok (.new 94, 3) := by decide +kernel
theorem dX8_addArgument_33 : decode cX8_addArgument 33 = .ok (.dup, 1) := by decide +kernel
theorem dX8_addArgument_34 : decode cX8_addArgument 34 = .ok (.ldc 157, 2) := by decide +kernel
theorem dX8_addArgument_36 : decode cX8_addArgument 36 = .ok (.invokespecial 98, 3) := by decide +kernel
theorem dX8_addArgument_39 : decode cX8_addArgument 39 = .ok (.athrow, 1) := by decide +kernel
theorem dX8_addArgument_40 : decode cX8_addArgument 40 = .ok (.aload_n 0, 1) := by decide +kernel
theorem dX8_addArgument_41 : decode cX8_addArgument 41 = .ok (.getfield 19, 3) := by decide +kernel
theorem dX8_addArgument_44 : decode cX8_addArgument 44 = .ok (.getfield 140, 3) := by decide +kernel
theorem dX8_addArgument_47 : decode cX8_addArgument 47 = .ok (.invokevirtual 144, 3) := by decide +kernel
theorem dX8_addArgument_50 : decode cX8_addArgument 50 = .ok (.bipush 50, 2) := by decide +kernel
theorem dX8_addArgument_52 : decode cX8_addArgument 52 = .ok (.if_icmp .lt 13, 3) := by decide +kernel
theorem dX8_addArgument_55 : decode cX8_addArgument 55 = .ok (.new 56, 3) := by decide +kernel
theorem dX8_addArgument_58 : decode cX8_addArgument 58 = .ok (.dup, 1) := by decide +kernel
theorem dX8_addArgument_59 : decode cX8_addArgument 59 = .ok (.ldc 147, 2) := by decide +kernel
theorem dX8_addArgument_61 : decode cX8_addArgument 61 = .ok (.invokespecial 60, 3) := by decide +kernel
theorem dX8_addArgument_64 : decode cX8_addArgument 64 = .ok (.athrow, 1) := by decide +kernel
theorem dX8_addArgument_65 : decode cX8_addArgument 65 = .ok (.aload_n 0, 1) := by decide +kernel
theorem dX8_addArgument_66 : decode cX8_addArgument 66 = .ok (.getfield 19, 3) := by decide +kernel
theorem dX8_addArgument_69 : decode cX8_addArgument 69 = .ok (.getfield 140, 3) := by decide +kernel
theorem dX8_addArgument_72 : decode cX8_addArgument 72 = .ok (.iconst 3, 1) := by decide +kernel
theorem dX8_addArgument_73 : decode cX8_addArgument 73 = .ok (.iload_n 1, 1) := by decide +kernel
theorem dX8_addArgument_74 : decode cX8_addArgument 74 = .ok (.iload_n 2, 1) := by decide +kernel
theorem dX8_addArgument_75 : decode cX8_addArgument 75 = .ok (.invokevirtual 149, 3) := by decide +kernel
theorem dX8_addArgument_78 : decode cX8_addArgument 78 = .ok (.ireturn, 1) := by decide +kernel
set_option maxRecDepth 20000 in
theorem ggX8_addFieldOf_X1_has : GoodIn wsX8_addFieldOf wsX1_has := goodIn_r _ [13, 14, 64, 65, 66, 67, 68, 69, 70] (by decide +kernel) (by decide +kernel)
set_option maxRecDepth 20000 in
theorem gX8_addFieldOf_X1_has : GoodIn wsX8_addFieldOf (wsV RX8 159 RX1 yX1_has wsX1_has) := goodIn_app (goodIn_of _ (by decide +kernel)) ggX8_addFieldOf_X1_has
set_option maxRecDepth 20000 in
theorem ggX8_addFieldOf_X8_isName : GoodIn wsX8_addFieldOf wsX8_isName := goodIn_r _ [18] (by decide +kernel) (by decide +kernel)
set_option maxRecDepth 20000 in
theorem gX8_addFieldOf_X8_isName : GoodIn wsX8_addFieldOf (va_wsS RX8 108 yX8_isName wsX8_isName) := goodIn_app (goodIn_of _ (by decide +kernel)) ggX8_addFieldOf_X8_isName
set_option maxRecDepth 20000 in
theorem ggX8_addFieldOf_X1_size : GoodIn wsX8_addFieldOf wsX1_size := goodIn_r _ [22, 14, 64, 65, 66, 67, 68, 69, 70] (by decide +kernel) (by decide +kernel)
set_option maxRecDepth 20000 in
theorem gX8_addFieldOf_X1_size : GoodIn wsX8_addFieldOf (wsV RX8 144 RX1 yX1_size wsX1_size) := goodIn_app (goodIn_of _ (by decide +kernel)) ggX8_addFieldOf_X1_size
set_option maxRecDepth 20000 in
theorem ggX8_addFieldOf_X1_method : GoodIn wsX8_addFieldOf wsX1_method := goodIn_r _ [26, 27, 28, 29, 30, 31, 32, 33, 64, 65, 66, 67, 68, 69, 70, 71] (by decide +kernel) (by decide +kernel)
set_option maxRecDepth 20000 in
theorem gX8_addFieldOf_X1_method : GoodIn wsX8_addFieldOf (wsV RX8 164 RX1 yX1_method wsX1_method) := goodIn_app (goodIn_of _ (by decide +kernel)) ggX8_addFieldOf_X1_method
set_option maxRecDepth 20000 in
theorem ggX8_addFieldOf_X1_append : GoodIn wsX8_addFieldOf wsX1_append := goodIn_r _ [37, 14, 38, 27, 39, 40, 41, 42, 31, 43, 33, 44, 45, 46, 12, 47, 48, 49, 50, 64, 65, 66, 67, 68, 69, 70, 71] (by decide +kernel) (by decide +kernel)
set_option maxRecDepth 20000 in
theorem gX8_addFieldOf_X1_append : GoodIn wsX8_addFieldOf (wsV RX8 149 RX1 yX1_append wsX1_append) := goodIn_app (goodIn_of _ (by decide +kernel)) ggX8_addFieldOf_X1_append
set_option maxRecDepth 20000 in
theorem ggX8_addFieldOf_X1_setParts : GoodIn wsX8_addFieldOf wsX1_setParts := goodIn_r _ [47, 48, 49, 50, 40, 41, 42, 31, 43, 33, 64, 65, 66, 67, 68, 69, 70, 71] (by decide +kernel) (by decide +kernel)
set_option maxRecDepth 20000 in
theorem gX8_addFieldOf_X1_setParts : GoodIn wsX8_addFieldOf (wsV RX8 168 RX1 yX1_setParts wsX1_setParts) := goodIn_app (goodIn_of _ (by decide +kernel)) ggX8_addFieldOf_X1_setParts
theorem dX8_addFieldOf_0 : decode cX8_addFieldOf 0 = .ok (.aload_n 0, 1) := by decide +kernel
theorem dX8_addFieldOf_1 : decode cX8_addFieldOf 1 = .ok (.getfield 19, 3) := by decide +kernel
theorem dX8_addFieldOf_4 : decode cX8_addFieldOf 4 = .ok (.getfield 140, 3) := by decide +kernel
theorem dX8_addFieldOf_7 : decode cX8_addFieldOf 7 = .ok (.iload_n 1, 1) := by decide +kernel
theorem dX8_addFieldOf_8 : decode cX8_addFieldOf 8 = .ok (.invokevirtual 159, 3) := by decide +kernel
theorem dX8_addFieldOf_11 : decode cX8_addFieldOf 11 = .ok (.ifCond .ne 13, 3) := by decide +kernel
theorem dX8_addFieldOf_14 : decode cX8_addFieldOf 14 = .ok (.new 94, 3) := by decide +kernel
theorem dX8_addFieldOf_17 : decode cX8_addFieldOf 17 = .ok (.dup, 1) := by decide +kernel
theorem dX8_addFieldOf_18 : decode cX8_addFieldOf 18 = .ok (.ldc 160, 2) := by decide +kernel
theorem dX8_addFieldOf_20 : decode cX8_addFieldOf 20 = .ok (.invokespecial 98, 3) := by decide +kernel
theorem dX8_addFieldOf_23 : decode cX8_addFieldOf 23 = .ok (.athrow, 1) := by decide +kernel
theorem dX8_addFieldOf_24 : decode cX8_addFieldOf 24 = .ok (.iload_n 2, 1) := by decide +kernel
theorem dX8_addFieldOf_25 : decode cX8_addFieldOf 25 = .ok (.invokestatic 108, 3) := by decide +kernel
theorem dX8_addFieldOf_28 : decode cX8_addFieldOf 28 = .ok (.ifCond .ne 13, 3) := by decide +kernel
theorem dX8_addFieldOf_31 : decode cX8_addFieldOf 31 = .ok (.new 45, 3) := by decide +kernel
theorem dX8_addFieldOf_34 : decode cX8_addFieldOf 34 = .ok (.dup, 1) := by decide +kernel
theorem dX8_addFieldOf_35 : decode cX8_addFieldOf 35 = .ok (.ldc 162, 2) := by decide +kernel
theorem dX8_addFieldOf_37 : decode cX8_addFieldOf 37 = .ok (.invokespecial 49, 3) := by decide +kernel
theorem dX8_addFieldOf_40 : decode cX8_addFieldOf 40 = .ok (.athrow, 1) := by decide +kernel
theorem dX8_addFieldOf_41 : decode cX8_addFieldOf 41 = .ok (.aload_n 0, 1) := by decide +kernel
theorem dX8_addFieldOf_42 : decode cX8_addFieldOf 42 = .ok (.getfield 19, 3) := by decide +kernel
theorem dX8_addFieldOf_45 : decode cX8_addFieldOf 45 = .ok (.getfield 140, 3) := by decide +kernel
theorem dX8_addFieldOf_48 : decode cX8_addFieldOf 48 = .ok (.invokevirtual 144, 3) := by decide +kernel
theorem dX8_addFieldOf_51 : decode cX8_addFieldOf 51 = .ok (.bipush 50, 2) := by decide +kernel
theorem dX8_addFieldOf_53 : decode cX8_addFieldOf 53 = .ok (.if_icmp .lt 13, 3) := by decide +kernel
theorem dX8_addFieldOf_56 : decode cX8_addFieldOf 56 = .ok (.new 56, 3) := by decide +kernel
theorem dX8_addFieldOf_59 : decode cX8_addFieldOf 59 = .ok (.dup, 1) := by decide +kernel
theorem dX8_addFieldOf_60 : decode cX8_addFieldOf 60 = .ok (.ldc 147, 2) := by decide +kernel
theorem dX8_addFieldOf_62 : decode cX8_addFieldOf 62 = .ok (.invokespecial 60, 3) := by decide +kernel
theorem dX8_addFieldOf_65 : decode cX8_addFieldOf 65 = .ok (.athrow, 1) := by decide +kernel
theorem dX8_addFieldOf_66 : decode cX8_addFieldOf 66 = .ok (.aload_n 0, 1) := by decide +kernel
theorem dX8_addFieldOf_67 : decode cX8_addFieldOf 67 = .ok (.getfield 19, 3) := by decide +kernel
theorem dX8_addFieldOf_70 : decode cX8_addFieldOf 70 = .ok (.getfield 140, 3) := by decide +kernel
theorem dX8_addFieldOf_73 : decode cX8_addFieldOf 73 = .ok (.iconst 4, 1) := by decide +kernel
theorem dX8_addFieldOf_74 : decode cX8_addFieldOf 74 = .ok (.aload_n 0, 1) := by decide +kernel
theorem dX8_addFieldOf_75 : decode cX8_addFieldOf 75 = .ok (.getfield 19, 3) := by decide +kernel
theorem dX8_addFieldOf_78 : decode cX8_addFieldOf 78 = .ok (.getfield 140, 3) := by decide +kernel
theorem dX8_addFieldOf_81 : decode cX8_addFieldOf 81 = .ok (.iload_n 1, 1) := by decide +kernel
theorem dX8_addFieldOf_82 : decode cX8_addFieldOf 82 = .ok (.invokevirtual 164, 3) := by decide +kernel
theorem dX8_addFieldOf_85 : decode cX8_addFieldOf 85 = .ok (.iload_n 2, 1) := by decide +kernel
theorem dX8_addFieldOf_86 : decode cX8_addFieldOf 86 = .ok (.invokevirtual 149, 3) := by decide +kernel
theorem dX8_addFieldOf_89 : decode cX8_addFieldOf 89 = .ok (.istore_n 3, 1) := by decide +kernel
theorem dX8_addFieldOf_90 : decode cX8_addFieldOf 90 = .ok (.aload_n 0, 1) := by decide +kernel
theorem dX8_addFieldOf_91 : decode cX8_addFieldOf 91 = .ok (.getfield 19, 3) := by decide +kernel
theorem dX8_addFieldOf_94 : decode cX8_addFieldOf 94 = .ok (.getfield 140, 3) := by decide +kernel
theorem dX8_addFieldOf_97 : decode cX8_addFieldOf 97 = .ok (.iload_n 3, 1) := by decide +kernel
theorem dX8_addFieldOf_98 : decode cX8_addFieldOf 98 = .ok (.iload_n 1, 1) := by decide +kernel
theorem dX8_addFieldOf_99 : decode cX8_addFieldOf 99 = .ok (.iconst (-1), 1) := by decide +kernel
theorem dX8_addFieldOf_100 : decode cX8_addFieldOf 100 = .ok (.iconst (-1), 1) := by decide +kernel
theorem dX8_addFieldOf_101 : decode cX8_addFieldOf 101 = .ok (.invokevirtual 168, 3) := by decide +kernel
theorem dX8_addFieldOf_104 : decode cX8_addFieldOf 104 = .ok (.iload_n 3, 1) := by decide +kernel
theorem dX8_addFieldOf_105 : decode cX8_addFieldOf 105 = .ok (.ireturn, 1) := by decide +kernel
set_option maxRecDepth 20000 in
theorem ggX8_addCall_X1_has : GoodIn wsX8_addCall wsX1_has := goodIn_r _ [13, 14, 73, 74, 75, 76, 77, 78, 79] (by decide +kernel) (by decide +kernel)
set_option maxRecDepth 20000 in
theorem gX8_addCall_X1_has : GoodIn wsX8_addCall (wsV RX8 159 RX1 yX1_has wsX1_has) := goodIn_app (goodIn_of _ (by decide +kernel)) ggX8_addCall_X1_has
set_option maxRecDepth 20000 in
theorem ggX8_addCall_X1_hasOrNone : GoodIn wsX8_addCall wsX1_hasOrNone := goodIn_r _ [18, 19, 10, 11, 12, 13, 14, 73, 74, 75, 76, 77, 78, 79] (by decide +kernel) (by decide +kernel)
set_option maxRecDepth 20000 in
theorem gX8_addCall_X1_hasOrNone : GoodIn wsX8_addCall (wsV RX8 171 RX1 yX1_hasOrNone wsX1_hasOrNone) := goodIn_app (goodIn_of _ (by decide +kernel)) ggX8_addCall_X1_hasOrNone
set_option maxRecDepth 20000 in
theorem ggX8_addCall_X8_isName : GoodIn wsX8_addCall wsX8_isName := goodIn_r _ [23] (by decide +kernel) (by decide +kernel)
set_option maxRecDepth 20000 in
theorem gX8_addCall_X8_isName : GoodIn wsX8_addCall (va_wsS RX8 108 yX8_isName wsX8_isName) := goodIn_app (goodIn_of _ (by decide +kernel)) ggX8_addCall_X8_isName
set_option maxRecDepth 20000 in
theorem ggX8_addCall_X1_areTogether : GoodIn wsX8_addCall wsX1_areTogether := goodIn_r _ [27, 28, 29, 30, 31, 32, 33, 34, 73, 74, 75, 76, 77, 78, 79, 80] (by decide +kernel) (by decide +kernel)
set_option maxRecDepth 20000 in
theorem gX8_addCall_X1_areTogether : GoodIn wsX8_addCall (wsV RX8 174 RX1 yX1_areTogether wsX1_areTogether) := goodIn_app (goodIn_of _ (by decide +kernel)) ggX8_addCall_X1_areTogether
set_option maxRecDepth 20000 in
theorem ggX8_addCall_X1_size : GoodIn wsX8_addCall wsX1_size := goodIn_r _ [38, 14, 73, 74, 75, 76, 77, 78, 79] (by decide +kernel) (by decide +kernel)
set_option maxRecDepth 20000 in
theorem gX8_addCall_X1_size : GoodIn wsX8_addCall (wsV RX8 144 RX1 yX1_size wsX1_size) := goodIn_app (goodIn_of _ (by decide +kernel)) ggX8_addCall_X1_size
set_option maxRecDepth 20000 in
theorem ggX8_addCall_X1_method : GoodIn wsX8_addCall wsX1_method := goodIn_r _ [42, 28, 29, 30, 31, 32, 33, 34, 73, 74, 75, 76, 77, 78, 79, 80] (by decide +kernel) (by decide +kernel)
set_option maxRecDepth 20000 in
theorem gX8_addCall_X1_method : GoodIn wsX8_addCall (wsV RX8 164 RX1 yX1_method wsX1_method) := goodIn_app (goodIn_of _ (by decide +kernel)) ggX8_addCall_X1_method
set_option maxRecDepth 20000 in
theorem ggX8_addCall_X1_append : GoodIn wsX8_addCall wsX1_append := goodIn_r _ [46, 14, 47, 28, 48, 49, 50, 51, 32, 52, 34, 53, 54, 55, 12, 56, 57, 58, 59, 73, 74, 75, 76, 77, 78, 79, 80] (by decide +kernel) (by decide +kernel)
set_option maxRecDepth 20000 in
theorem gX8_addCall_X1_append : GoodIn wsX8_addCall (wsV RX8 149 RX1 yX1_append wsX1_append) := goodIn_app (goodIn_of _ (by decide +kernel)) ggX8_addCall_X1_append
set_option maxRecDepth 20000 in
theorem ggX8_addCall_X1_setParts : GoodIn wsX8_addCall wsX1_setParts := goodIn_r _ [56, 57, 58, 59, 49, 50, 51, 32, 52, 34, 73, 74, 75, 76, 77, 78, 79, 80] (by decide +kernel) (by decide +kernel)
set_option maxRecDepth 20000 in
theorem gX8_addCall_X1_setParts : GoodIn wsX8_addCall (wsV RX8 168 RX1 yX1_setParts wsX1_setParts) := goodIn_app (goodIn_of _ (by decide +kernel)) ggX8_addCall_X1_setParts
theorem dX8_addCall_0 : decode cX8_addCall 0 = .ok (.aload_n 0, 1) := by decide +kernel
theorem dX8_addCall_1 : decode cX8_addCall 1 = .ok (.getfield 19, 3) := by decide +kernel
theorem dX8_addCall_4 : decode cX8_addCall 4 = .ok (.getfield 140, 3) := by decide +kernel
theorem dX8_addCall_7 : decode cX8_addCall 7 = .ok (.iload_n 1, 1) := by decide +kernel
theorem dX8_addCall_8 : decode cX8_addCall 8 = .ok (.invokevirtual 159, 3) := by decide +kernel
theorem dX8_addCall_11 : decode cX8_addCall 11 = .ok (.ifCond .eq 32, 3) := by decide +kernel
theorem dX8_addCall_14 : decode cX8_addCall 14 = .ok (.aload_n 0, 1) := by decide +kernel
theorem dX8_addCall_15 : decode cX8_addCall 15 = .ok (.getfield 19, 3) := by decide +kernel
theorem dX8_addCall_18 : decode cX8_addCall 18 = .ok (.getfield 140, 3) := by decide +kernel
theorem dX8_addCall_21 : decode cX8_addCall 21 = .ok (.iload_n 3, 1) := by decide +kernel
theorem dX8_addCall_22 : decode cX8_addCall 22 = .ok (.invokevirtual 171, 3) := by decide +kernel
theorem dX8_addCall_25 : decode cX8_addCall 25 = .ok (.ifCond .eq 18, 3) := by decide +kernel
theorem dX8_addCall_28 : decode cX8_addCall 28 = .ok (.aload_n 0, 1) := by decide +kernel
theorem dX8_addCall_29 : decode cX8_addCall 29 = .ok (.getfield 19, 3) := by decide +kernel
theorem dX8_addCall_32 : decode cX8_addCall 32 = .ok (.getfield 140, 3) := by decide +kernel
theorem dX8_addCall_35 : decode cX8_addCall 35 = .ok (.iload 4, 2) := by decide +kernel
theorem dX8_addCall_37 : decode cX8_addCall 37 = .ok (.invokevirtual 171, 3) := by decide +kernel
theorem dX8_addCall_40 : decode cX8_addCall 40 = .ok (.ifCond .ne 13, 3) := by decide +kernel
theorem dX8_addCall_43 : decode cX8_addCall 43 = .ok (.new 94, 3) := by decide +kernel
theorem dX8_addCall_46 : decode cX8_addCall 46 = .ok (.dup, 1) := by decide +kernel
theorem dX8_addCall_47 : decode cX8_addCall 47 = .ok (.ldc 160, 2) := by decide +kernel
theorem dX8_addCall_49 : decode cX8_addCall 49 = .ok (.invokespecial 98, 3) := by decide +kernel
theorem dX8_addCall_52 : decode cX8_addCall 52 = .ok (.athrow, 1) := by decide +kernel
theorem dX8_addCall_53 : decode cX8_addCall 53 = .ok (.iload_n 2, 1) := by decide +kernel
theorem dX8_addCall_54 : decode cX8_addCall 54 = .ok (.invokestatic 108, 3) := by decide +kernel
theorem dX8_addCall_57 : decode cX8_addCall 57 = .ok (.ifCond .eq 45, 3) := by decide +kernel
theorem dX8_addCall_60 : decode cX8_addCall 60 = .ok (.iload_n 3, 1) := by decide +kernel
theorem dX8_addCall_61 : decode cX8_addCall 61 = .ok (.iconst (-1), 1) := by decide +kernel
theorem dX8_addCall_62 : decode cX8_addCall 62 = .ok (.if_icmp .ne 9, 3) := by decide +kernel
theorem dX8_addCall_65 : decode cX8_addCall 65 = .ok (.iload 4, 2) := by decide +kernel
theorem dX8_addCall_67 : decode cX8_addCall 67 = .ok (.iconst (-1), 1) := by decide +kernel
theorem dX8_addCall_68 : decode cX8_addCall 68 = .ok (.if_icmp .ne 34, 3) := by decide +kernel
theorem dX8_addCall_71 : decode cX8_addCall 71 = .ok (.aload_n 0, 1) := by decide +kernel
theorem dX8_addCall_72 : decode cX8_addCall 72 = .ok (.getfield 19, 3) := by decide +kernel
theorem dX8_addCall_75 : decode cX8_addCall 75 = .ok (.getfield 140, 3) := by decide +kernel
theorem dX8_addCall_78 : decode cX8_addCall 78 = .ok (.iload_n 1, 1) := by decide +kernel
theorem dX8_addCall_79 : decode cX8_addCall 79 = .ok (.iload_n 3, 1) := by decide +kernel
theorem dX8_addCall_80 : decode cX8_addCall 80 = .ok (.invokevirtual 174, 3) := by decide +kernel
theorem dX8_addCall_83 : decode cX8_addCall 83 = .ok (.ifCond .eq 19, 3) := by decide +kernel
theorem dX8_addCall_86 : decode cX8_addCall 86 = .ok (.aload_n 0, 1) := by decide +kernel
theorem dX8_addCall_87 : decode cX8_addCall 87 = .ok (.getfield 19, 3) := by decide +kernel
theorem dX8_addCall_90 : decode cX8_addCall 90 = .ok (.getfield 140, 3) := by decide +kernel
theorem dX8_addCall_93 : decode cX8_addCall 93 = .ok (.iload_n 1, 1) := by decide +kernel
theorem dX8_addCall_94 : decode cX8_addCall 94 = .ok (.iload 4, 2) := by decide +kernel
theorem dX8_addCall_96 : decode cX8_addCall 96 = .ok (.invokevirtual 174, 3) := by decide +kernel
theorem dX8_addCall_99 : decode cX8_addCall 99 = .ok (.ifCond .ne 13, 3) := by decide +kernel
theorem dX8_addCall_102 : decode cX8_addCall 102 = .ok (.new 45, 3) := by decide +kernel
theorem dX8_addCall_105 : decode cX8_addCall 105 = .ok (.dup, 1) := by decide +kernel
theorem dX8_addCall_106 : decode cX8_addCall 106 = .ok (.ldc 177, 2) := by decide +kernel
theorem dX8_addCall_108 : decode cX8_addCall 108 = .ok (.invokespecial 49, 3) := by decide +kernel
theorem dX8_addCall_111 : decode cX8_addCall 111 = .ok (.athrow, 1) := by decide +kernel
theorem dX8_addCall_112 : decode cX8_addCall 112 = .ok (.aload_n 0, 1) := by decide +kernel
theorem dX8_addCall_113 : decode cX8_addCall 113 = .ok (.getfield 19, 3) := by decide +kernel
theorem dX8_addCall_116 : decode cX8_addCall 116 = .ok (.getfield 140, 3) := by decide +kernel
theorem dX8_addCall_119 : decode cX8_addCall 119 = .ok (.invokevirtual 144, 3) := by decide +kernel
theorem dX8_addCall_122 : decode cX8_addCall 122 = .ok (.bipush 50, 2) := by decide +kernel
theorem dX8_addCall_124 : decode cX8_addCall 124 = .ok (.if_icmp .lt 13, 3) := by decide +kernel
theorem dX8_addCall_127 : decode cX8_addCall 127 = .ok (.new 56, 3) := by decide +kernel
theorem dX8_addCall_130 : decode cX8_addCall 130 = .ok (.dup, 1) := by decide +kernel
theorem dX8_addCall_131 : decode cX8_addCall 131 = .ok (.ldc 147, 2) := by decide +kernel
theorem dX8_addCall_133 : decode cX8_addCall 133 = .ok (.invokespecial 60, 3) := by decide +kernel
theorem dX8_addCall_136 : decode cX8_addCall 136 = .ok (.athrow, 1) := by decide +kernel
theorem dX8_addCall_137 : decode cX8_addCall 137 = .ok (.aload_n 0, 1) := by decide +kernel
theorem dX8_addCall_138 : decode cX8_addCall 138 = .ok (.getfield 19, 3) := by decide +kernel
theorem dX8_addCall_141 : decode cX8_addCall 141 = .ok (.getfield 140, 3) := by decide +kernel
theorem dX8_addCall_144 : decode cX8_addCall 144 = .ok (.iconst 5, 1) := by decide +kernel
theorem dX8_addCall_145 : decode cX8_addCall 145 = .ok (.aload_n 0, 1) := by decide +kernel
theorem dX8_addCall_146 : decode cX8_addCall 146 = .ok (.getfield 19, 3) := by decide +kernel
theorem dX8_addCall_149 : decode cX8_addCall 149 = .ok (.getfield 140, 3) := by decide +kernel
theorem dX8_addCall_152 : decode cX8_addCall 152 = .ok (.iload_n 1, 1) := by decide +kernel
theorem dX8_addCall_153 : decode cX8_addCall 153 = .ok (.invokevirtual 164, 3) := by decide +kernel
theorem dX8_addCall_156 : decode cX8_addCall 156 = .ok (.iload_n 2, 1) := by decide +kernel
theorem dX8_addCall_157 : decode cX8_addCall 157 = .ok (.invokevirtual 149, 3) := by decide +kernel
theorem dX8_addCall_160 : decode cX8_addCall 160 = .ok (.istore 5, 2) := by decide +kernel
theorem dX8_addCall_162 : decode cX8_addCall 162 = .ok (.aload_n 0, 1) := by decide +kernel
theorem dX8_addCall_163 : decode cX8_addCall 163 = .ok (.getfield 19, 3) := by decide +kernel
theorem dX8_addCall_166 : decode cX8_addCall 166 = .ok (.getfield 140, 3) := by decide +kernel
theorem dX8_addCall_169 : decode cX8_addCall 169 = .ok (.iload 5, 2) := by decide +kernel
theorem dX8_addCall_171 : decode cX8_addCall 171 = .ok (.iload_n 1, 1) := by decide +kernel
theorem dX8_addCall_172 : decode cX8_addCall 172 = .ok (.iload_n 3, 1) := by decide +kernel
theorem dX8_addCall_173 : decode cX8_addCall 173 = .ok (.iload 4, 2) := by decide +kernel
theorem dX8_addCall_175 : decode cX8_addCall 175 = .ok (.invokevirtual 168, 3) := by decide +kernel
theorem dX8_addCall_178 : decode cX8_addCall 178 = .ok (.iload 5, 2) := by decide +kernel
theorem dX8_addCall_180 : decode cX8_addCall 180 = .ok (.ireturn, 1) := by decide +kernel
set_option maxRecDepth 20000 in
theorem ggX8_addResult_X1_has : GoodIn wsX8_addResult wsX1_has := goodIn_r _ [14, 15, 65, 66, 67, 68, 69, 70, 71] (by decide +kernel) (by decide +kernel)
set_option maxRecDepth 20000 in
theorem gX8_addResult_X1_has : GoodIn wsX8_addResult (wsV RX8 159 RX1 yX1_has wsX1_has) := goodIn_app (goodIn_of _ (by decide +kernel)) ggX8_addResult_X1_has
set_option maxRecDepth 20000 in
theorem ggX8_addResult_X8_isCondition : GoodIn wsX8_addResult wsX8_isCondition := goodIn_r _ [19] (by decide +kernel) (by decide +kernel)
set_option maxRecDepth 20000 in
theorem gX8_addResult_X8_isCondition : GoodIn wsX8_addResult (va_wsS RX8 73 yX8_isCondition wsX8_isCondition) := goodIn_app (goodIn_of _ (by decide +kernel)) ggX8_addResult_X8_isCondition
set_option maxRecDepth 20000 in
theorem ggX8_addResult_X0_size : GoodIn wsX8_addResult wsX0_size := goodIn_r _ [24, 25, 72, 73, 74, 75] (by decide +kernel) (by decide +kernel)
set_option maxRecDepth 20000 in
theorem gX8_addResult_X0_size : GoodIn wsX8_addResult (wsV RX8 83 RX0 yX0_size wsX0_size) := goodIn_app (goodIn_of _ (by decide +kernel)) ggX8_addResult_X0_size
set_option maxRecDepth 20000 in
theorem ggX8_addResult_X4_appendResult : GoodIn wsX8_addResult wsX4_appendResult := goodIn_r _ [30, 31, 32, 33, 34, 35, 23, 36, 25, 37, 38, 39, 40, 41, 42, 43, 44, 45, 46, 47, 48, 49, 50, 18, 51, 52, 57, 58, 59, 60, 61, 62, 63, 64, 72, 73, 74, 75, 76] (by decide +kernel) (by decide +kernel)
set_option maxRecDepth 20000 in
theorem gX8_addResult_X4_appendResult : GoodIn wsX8_addResult (wsV RX8 184 RX4 yX4_appendResult wsX4_appendResult) := goodIn_app (goodIn_of _ (by decide +kernel)) ggX8_addResult_X4_appendResult
theorem dX8_addResult_0 : decode cX8_addResult 0 = .ok (.aload_n 0, 1) := by decide +kernel
theorem dX8_addResult_1 : decode cX8_addResult 1 = .ok (.getfield 19, 3) := by decide +kernel
theorem dX8_addResult_4 : decode cX8_addResult 4 = .ok (.getfield 140, 3) := by decide +kernel
theorem dX8_addResult_7 : decode cX8_addResult 7 = .ok (.iload_n 1, 1) := by decide +kernel
theorem dX8_addResult_8 : decode cX8_addResult 8 = .ok (.invokevirtual 159, 3) := by decide +kernel
theorem dX8_addResult_11 : decode cX8_addResult 11 = .ok (.ifCond .ne 13, 3) := by decide +kernel
theorem dX8_addResult_14 : decode cX8_addResult 14 = .ok (.new 94, 3) := by decide +kernel
theorem dX8_addResult_17 : decode cX8_addResult 17 = .ok (.dup, 1) := by decide +kernel
theorem dX8_addResult_18 : decode cX8_addResult 18 = .ok (.ldc 160, 2) := by decide +kernel
theorem dX8_addResult_20 : decode cX8_addResult 20 = .ok (.invokespecial 98, 3) := by decide +kernel
theorem dX8_addResult_23 : decode cX8_addResult 23 = .ok (.athrow, 1) := by decide +kernel
theorem dX8_addResult_24 : decode cX8_addResult 24 = .ok (.iload_n 2, 1) := by decide +kernel
theorem dX8_addResult_25 : decode cX8_addResult 25 = .ok (.iload_n 3, 1) := by decide +kernel
theorem dX8_addResult_26 : decode cX8_addResult 26 = .ok (.invokestatic 73, 3) := by decide +kernel
theorem dX8_addResult_29 : decode cX8_addResult 29 = .ok (.ifCond .ne 13, 3) := by decide +kernel
theorem dX8_addResult_32 : decode cX8_addResult 32 = .ok (.new 45, 3) := by decide +kernel
theorem dX8_addResult_35 : decode cX8_addResult 35 = .ok (.dup, 1) := by decide +kernel
theorem dX8_addResult_36 : decode cX8_addResult 36 = .ok (.ldc 77, 2) := by decide +kernel
theorem dX8_addResult_38 : decode cX8_addResult 38 = .ok (.invokespecial 49, 3) := by decide +kernel
theorem dX8_addResult_41 : decode cX8_addResult 41 = .ok (.athrow, 1) := by decide +kernel
theorem dX8_addResult_42 : decode cX8_addResult 42 = .ok (.aload_n 0, 1) := by decide +kernel
theorem dX8_addResult_43 : decode cX8_addResult 43 = .ok (.getfield 19, 3) := by decide +kernel
theorem dX8_addResult_46 : decode cX8_addResult 46 = .ok (.getfield 179, 3) := by decide +kernel
theorem dX8_addResult_49 : decode cX8_addResult 49 = .ok (.invokevirtual 83, 3) := by decide +kernel
theorem dX8_addResult_52 : decode cX8_addResult 52 = .ok (.bipush 16, 2) := by decide +kernel
theorem dX8_addResult_54 : decode cX8_addResult 54 = .ok (.if_icmp .lt 13, 3) := by decide +kernel
theorem dX8_addResult_57 : decode cX8_addResult 57 = .ok (.new 56, 3) := by decide +kernel
theorem dX8_addResult_60 : decode cX8_addResult 60 = .ok (.dup, 1) := by decide +kernel
theorem dX8_addResult_61 : decode cX8_addResult 61 = .ok (.ldc 182, 2) := by decide +kernel
theorem dX8_addResult_63 : decode cX8_addResult 63 = .ok (.invokespecial 60, 3) := by decide +kernel
theorem dX8_addResult_66 : decode cX8_addResult 66 = .ok (.athrow, 1) := by decide +kernel
theorem dX8_addResult_67 : decode cX8_addResult 67 = .ok (.aload_n 0, 1) := by decide +kernel
theorem dX8_addResult_68 : decode cX8_addResult 68 = .ok (.getfield 19, 3) := by decide +kernel
theorem dX8_addResult_71 : decode cX8_addResult 71 = .ok (.iload_n 1, 1) := by decide +kernel
theorem dX8_addResult_72 : decode cX8_addResult 72 = .ok (.iload_n 2, 1) := by decide +kernel
theorem dX8_addResult_73 : decode cX8_addResult 73 = .ok (.iload_n 3, 1) := by decide +kernel
theorem dX8_addResult_74 : decode cX8_addResult 74 = .ok (.invokevirtual 184, 3) := by decide +kernel
theorem dX8_addResult_77 : decode cX8_addResult 77 = .ok (.ireturn, 1) := by decide +kernel
set_option maxRecDepth 20000 in
theorem ggX8_setCondition_X4_hasElement : GoodIn wsX8_setCondition wsX4_hasElement := goodIn_r _ [10, 11, 12, 13, 9, 14, 15, 16, 17, 18, 19, 20, 21, 22, 23, 24, 25, 58, 59, 60, 61, 62, 63, 64, 65, 66, 67, 68, 69, 70, 71, 72, 73, 74, 75, 76] (by decide +kernel) (by decide +kernel)
set_option maxRecDepth 20000 in
theorem gX8_setCondition_X4_hasElement : GoodIn wsX8_setCondition (wsV RX8 187 RX4 yX4_hasElement wsX4_hasElement) := goodIn_app (goodIn_of _ (by decide +kernel)) ggX8_setCondition_X4_hasElement
set_option maxRecDepth 20000 in
theorem ggX8_setCondition_X8_isCondition : GoodIn wsX8_setCondition wsX8_isCondition := goodIn_r _ [29] (by decide +kernel) (by decide +kernel)
set_option maxRecDepth 20000 in
theorem gX8_setCondition_X8_isCondition : GoodIn wsX8_setCondition (va_wsS RX8 73 yX8_isCondition wsX8_isCondition) := goodIn_app (goodIn_of _ (by decide +kernel)) ggX8_setCondition_X8_isCondition
set_option maxRecDepth 20000 in
theorem ggX8_setCondition_X4_conditions : GoodIn wsX8_setCondition wsX4_conditions := goodIn_r _ [14, 15, 16, 17, 18, 19, 58, 59, 60, 61, 62, 63, 64, 65, 66, 67, 68, 69, 70, 71, 72] (by decide +kernel) (by decide +kernel)
set_option maxRecDepth 20000 in
theorem gX8_setCondition_X4_conditions : GoodIn wsX8_setCondition (wsV RX8 192 RX4 yX4_conditions wsX4_conditions) := goodIn_app (goodIn_of _ (by decide +kernel)) ggX8_setCondition_X4_conditions
set_option maxRecDepth 20000 in
theorem ggX8_setCondition_X0_change : GoodIn wsX8_setCondition wsX0_change := goodIn_r _ [34, 35, 36, 37, 38, 39, 40, 41, 42, 43, 44, 45, 23, 46, 47, 48, 49, 50, 51, 52, 28, 53, 73, 74, 75, 76, 77] (by decide +kernel) (by decide +kernel)
set_option maxRecDepth 20000 in
theorem gX8_setCondition_X0_change : GoodIn wsX8_setCondition (wsV RX8 196 RX0 yX0_change wsX0_change) := goodIn_app (goodIn_of _ (by decide +kernel)) ggX8_setCondition_X0_change
theorem dX8_setCondition_0 : decode cX8_setCondition 0 = .ok (.aload_n 0, 1) := by decide +kernel
theorem dX8_setCondition_1 : decode cX8_setCondition 1 = .ok (.getfield 19, 3) := by decide +kernel
theorem dX8_setCondition_4 : decode cX8_setCondition 4 = .ok (.iload_n 1, 1) := by decide +kernel
theorem dX8_setCondition_5 : decode cX8_setCondition 5 = .ok (.iload_n 2, 1) := by decide +kernel
theorem dX8_setCondition_6 : decode cX8_setCondition 6 = .ok (.invokevirtual 187, 3) := by decide +kernel
theorem dX8_setCondition_9 : decode cX8_setCondition 9 = .ok (.ifCond .ne 13, 3) := by decide +kernel
theorem dX8_setCondition_12 : decode cX8_setCondition 12 = .ok (.new 94, 3) := by decide +kernel
theorem dX8_setCondition_15 : decode cX8_setCondition 15 = .ok (.dup, 1) := by decide +kernel
theorem dX8_setCondition_16 : decode cX8_setCondition 16 = .ok (.ldc 190, 2) := by decide +kernel
theorem dX8_setCondition_18 : decode cX8_setCondition 18 = .ok (.invokespecial 98, 3) := by decide +kernel
theorem dX8_setCondition_21 : decode cX8_setCondition 21 = .ok (.athrow, 1) := by decide +kernel
theorem dX8_setCondition_22 : decode cX8_setCondition 22 = .ok (.iload_n 3, 1) := by decide +kernel
theorem dX8_setCondition_23 : decode cX8_setCondition 23 = .ok (.iload 4, 2) := by decide +kernel
theorem dX8_setCondition_25 : decode cX8_setCondition 25 = .ok (.invokestatic 73, 3) := by decide +kernel
theorem dX8_setCondition_28 : decode cX8_setCondition 28 = .ok (.ifCond .ne 13, 3) := by decide +kernel
theorem dX8_setCondition_31 : decode cX8_setCondition 31 = .ok (.new 45, 3) := by decide +kernel
theorem dX8_setCondition_34 : decode cX8_setCondition 34 = .ok (.dup, 1) := by decide +kernel
theorem dX8_setCondition_35 : decode cX8_setCondition 35 = .ok (.ldc 77, 2) := by decide +kernel
theorem dX8_setCondition_37 : decode cX8_setCondition 37 = .ok (.invokespecial 49, 3) := by decide +kernel
theorem dX8_setCondition_40 : decode cX8_setCondition 40 = .ok (.athrow, 1) := by decide +kernel
theorem dX8_setCondition_41 : decode cX8_setCondition 41 = .ok (.aload_n 0, 1) := by decide +kernel
theorem dX8_setCondition_42 : decode cX8_setCondition 42 = .ok (.getfield 19, 3) := by decide +kernel
theorem dX8_setCondition_45 : decode cX8_setCondition 45 = .ok (.iload_n 1, 1) := by decide +kernel
theorem dX8_setCondition_46 : decode cX8_setCondition 46 = .ok (.invokevirtual 192, 3) := by decide +kernel
theorem dX8_setCondition_49 : decode cX8_setCondition 49 = .ok (.iload_n 2, 1) := by decide +kernel
theorem dX8_setCondition_50 : decode cX8_setCondition 50 = .ok (.iload_n 3, 1) := by decide +kernel
theorem dX8_setCondition_51 : decode cX8_setCondition 51 = .ok (.iload 4, 2) := by decide +kernel
theorem dX8_setCondition_53 : decode cX8_setCondition 53 = .ok (.invokevirtual 196, 3) := by decide +kernel
theorem dX8_setCondition_56 : decode cX8_setCondition 56 = .ok (.ireturn, 1) := by decide +kernel
set_option maxRecDepth 20000 in
theorem ggX8_dropResult_X0_size : GoodIn wsX8_dropResult wsX0_size := goodIn_r _ [9, 10, 27, 28, 29, 30] (by decide +kernel) (by decide +kernel)
set_option maxRecDepth 20000 in
theorem gX8_dropResult_X0_size : GoodIn wsX8_dropResult (wsV RX8 83 RX0 yX0_size wsX0_size) := goodIn_app (goodIn_of _ (by decide +kernel)) ggX8_dropResult_X0_size
set_option maxRecDepth 20000 in
theorem ggX8_dropResult_X0_dropLast : GoodIn wsX8_dropResult wsX0_dropLast := goodIn_r _ [14, 10, 27, 28, 29, 30] (by decide +kernel) (by decide +kernel)
set_option maxRecDepth 20000 in
theorem gX8_dropResult_X0_dropLast : GoodIn wsX8_dropResult (wsV RX8 202 RX0 yX0_dropLast wsX0_dropLast) := goodIn_app (goodIn_of _ (by decide +kernel)) ggX8_dropResult_X0_dropLast
theorem dX8_dropResult_0 : decode cX8_dropResult 0 = .ok (.aload_n 0, 1) := by decide +kernel
theorem dX8_dropResult_1 : decode cX8_dropResult 1 = .ok (.getfield 19, 3) := by decide +kernel
theorem dX8_dropResult_4 : decode cX8_dropResult 4 = .ok (.getfield 179, 3) := by decide +kernel
theorem dX8_dropResult_7 : decode cX8_dropResult 7 = .ok (.invokevirtual 83, 3) := by decide +kernel
theorem dX8_dropResult_10 : decode cX8_dropResult 10 = .ok (.ifCond .ne 13, 3) := by decide +kernel
theorem dX8_dropResult_13 : decode cX8_dropResult 13 = .ok (.new 56, 3) := by decide +kernel
theorem dX8_dropResult_16 : decode cX8_dropResult 16 = .ok (.dup, 1) := by decide +kernel
theorem dX8_dropResult_17 : decode cX8_dropResult 17 = .ok (.ldc 200, 2) := by decide +kernel
theorem dX8_dropResult_19 : decode cX8_dropResult 19 = .ok (.invokespecial 60, 3) := by decide +kernel
theorem dX8_dropResult_22 : decode cX8_dropResult 22 = .ok (.athrow, 1) := by decide +kernel
theorem dX8_dropResult_23 : decode cX8_dropResult 23 = .ok (.aload_n 0, 1) := by decide +kernel
theorem dX8_dropResult_24 : decode cX8_dropResult 24 = .ok (.getfield 19, 3) := by decide +kernel
theorem dX8_dropResult_27 : decode cX8_dropResult 27 = .ok (.getfield 179, 3) := by decide +kernel
theorem dX8_dropResult_30 : decode cX8_dropResult 30 = .ok (.invokevirtual 202, 3) := by decide +kernel
theorem dX8_dropResult_33 : decode cX8_dropResult 33 = .ok (.aload_n 0, 1) := by decide +kernel
theorem dX8_dropResult_34 : decode cX8_dropResult 34 = .ok (.getfield 19, 3) := by decide +kernel
theorem dX8_dropResult_37 : decode cX8_dropResult 37 = .ok (.getfield 179, 3) := by decide +kernel
theorem dX8_dropResult_40 : decode cX8_dropResult 40 = .ok (.invokevirtual 83, 3) := by decide +kernel
theorem dX8_dropResult_43 : decode cX8_dropResult 43 = .ok (.ireturn, 1) := by decide +kernel
set_option maxRecDepth 20000 in
theorem ggX8_count_X4_size : GoodIn wsX8_count wsX4_size := goodIn_r _ [8, 9, 10, 11, 12, 13, 14, 15, 16, 17, 18, 7, 19, 20, 21, 22, 23, 24, 25, 26, 27, 28, 29, 30, 35, 36, 37, 38, 39, 40, 41, 42, 43, 44, 45, 46, 47, 48, 49, 50, 51, 52, 53, 54, 55, 56, 57, 58, 59, 60] (by decide +kernel) (by decide +kernel)
set_option maxRecDepth 20000 in
theorem gX8_count_X4_size : GoodIn wsX8_count (wsV RX8 205 RX4 yX4_size wsX4_size) := goodIn_app (goodIn_of _ (by decide +kernel)) ggX8_count_X4_size
theorem dX8_count_0 : decode cX8_count 0 = .ok (.iload_n 1, 1) := by decide +kernel
theorem dX8_count_1 : decode cX8_count 1 = .ok (.ifCond .lt 8, 3) := by decide +kernel
theorem dX8_count_4 : decode cX8_count 4 = .ok (.iload_n 1, 1) := by decide +kernel
theorem dX8_count_5 : decode cX8_count 5 = .ok (.iconst 4, 1) := by decide +kernel
theorem dX8_count_6 : decode cX8_count 6 = .ok (.if_icmp .le 13, 3) := by decide +kernel
theorem dX8_count_9 : decode cX8_count 9 = .ok (.new 94, 3) := by decide +kernel
theorem dX8_count_12 : decode cX8_count 12 = .ok (.dup, 1) := by decide +kernel
theorem dX8_count_13 : decode cX8_count 13 = .ok (.ldc 203, 2) := by decide +kernel
theorem dX8_count_15 : decode cX8_count 15 = .ok (.invokespecial 98, 3) := by decide +kernel
theorem dX8_count_18 : decode cX8_count 18 = .ok (.athrow, 1) := by decide +kernel
theorem dX8_count_19 : decode cX8_count 19 = .ok (.aload_n 0, 1) := by decide +kernel
theorem dX8_count_20 : decode cX8_count 20 = .ok (.getfield 19, 3) := by decide +kernel
theorem dX8_count_23 : decode cX8_count 23 = .ok (.iload_n 1, 1) := by decide +kernel
theorem dX8_count_24 : decode cX8_count 24 = .ok (.invokevirtual 205, 3) := by decide +kernel
theorem dX8_count_27 : decode cX8_count 27 = .ok (.ireturn, 1) := by decide +kernel
set_option maxRecDepth 20000 in
theorem ggX8_presence_X4_hasElement : GoodIn wsX8_presence wsX4_hasElement := goodIn_r _ [8, 9, 10, 11, 7, 12, 13, 14, 15, 16, 17, 18, 19, 20, 21, 22, 23, 88, 89, 90, 91, 92, 93, 94, 95, 96, 97, 98, 99, 100, 101, 102, 103, 104, 105, 106] (by decide +kernel) (by decide +kernel)
set_option maxRecDepth 20000 in
theorem gX8_presence_X4_hasElement : GoodIn wsX8_presence (wsV RX8 187 RX4 yX4_hasElement wsX4_hasElement) := goodIn_app (goodIn_of _ (by decide +kernel)) ggX8_presence_X4_hasElement
set_option maxRecDepth 20000 in
theorem ggX8_presence_X4_whereThere : GoodIn wsX8_presence wsX4_whereThere := goodIn_r _ [27, 13, 28, 29, 15, 16, 9, 10, 11, 7, 12, 14, 17, 30, 31, 32, 21, 33, 34, 35, 36, 37, 38, 39, 40, 41, 42, 43, 44, 45, 46, 47, 48, 49, 50, 51, 52, 53, 54, 55, 56, 57, 58, 59, 60, 61, 88, 89, 90, 91, 92, 93, 94, 95, 96, 97, 98, 99, 100, 101, 102, 103, 104, 105, 106, 107, 108, 109, 110, 111, 112, 113, 114] (by decide +kernel) (by decide +kernel)
set_option maxRecDepth 20000 in
theorem gX8_presence_X4_whereThere : GoodIn wsX8_presence (wsV RX8 207 RX4 yX4_whereThere wsX4_whereThere) := goodIn_app (goodIn_of _ (by decide +kernel)) ggX8_presence_X4_whereThere
set_option maxRecDepth 20000 in
theorem ggX8_presence_X8_products : GoodIn wsX8_presence wsX8_products := goodIn_r _ [66, 67, 68, 69, 70, 71, 72, 73, 74, 75, 76, 77, 78, 79, 80, 81, 36, 37, 38, 39, 40, 82, 65, 83, 84, 85, 86, 87, 115, 116, 117, 118, 107] (by decide +kernel) (by decide +kernel)
set_option maxRecDepth 20000 in
theorem gX8_presence_X8_products : GoodIn wsX8_presence (wsV RX8 210 RX8 yX8_products wsX8_products) := goodIn_app (goodIn_of _ (by decide +kernel)) ggX8_presence_X8_products
theorem dX8_presence_0 : decode cX8_presence 0 = .ok (.aload_n 0, 1) := by decide +kernel
theorem dX8_presence_1 : decode cX8_presence 1 = .ok (.getfield 19, 3) := by decide +kernel
theorem dX8_presence_4 : decode cX8_presence 4 = .ok (.iload_n 1, 1) := by decide +kernel
theorem dX8_presence_5 : decode cX8_presence 5 = .ok (.iload_n 2, 1) := by decide +kernel
theorem dX8_presence_6 : decode cX8_presence 6 = .ok (.invokevirtual 187, 3) := by decide +kernel
theorem dX8_presence_9 : decode cX8_presence 9 = .ok (.ifCond .ne 13, 3) := by decide +kernel
theorem dX8_presence_12 : decode cX8_presence 12 = .ok (.new 94, 3) := by decide +kernel
theorem dX8_presence_15 : decode cX8_presence 15 = .ok (.dup, 1) := by decide +kernel
theorem dX8_presence_16 : decode cX8_presence 16 = .ok (.ldc 190, 2) := by decide +kernel
theorem dX8_presence_18 : decode cX8_presence 18 = .ok (.invokespecial 98, 3) := by decide +kernel
theorem dX8_presence_21 : decode cX8_presence 21 = .ok (.athrow, 1) := by decide +kernel
theorem dX8_presence_22 : decode cX8_presence 22 = .ok (.aload_n 0, 1) := by decide +kernel
theorem dX8_presence_23 : decode cX8_presence 23 = .ok (.getfield 19, 3) := by decide +kernel
theorem dX8_presence_26 : decode cX8_presence 26 = .ok (.iload_n 1, 1) := by decide +kernel
theorem dX8_presence_27 : decode cX8_presence 27 = .ok (.iload_n 2, 1) := by decide +kernel
theorem dX8_presence_28 : decode cX8_presence 28 = .ok (.invokevirtual 207, 3) := by decide +kernel
theorem dX8_presence_31 : decode cX8_presence 31 = .ok (.aload_n 0, 1) := by decide +kernel
theorem dX8_presence_32 : decode cX8_presence 32 = .ok (.invokevirtual 210, 3) := by decide +kernel
theorem dX8_presence_35 : decode cX8_presence 35 = .ok (.iand, 1) := by decide +kernel
theorem dX8_presence_36 : decode cX8_presence 36 = .ok (.ireturn, 1) := by decide +kernel
set_option maxRecDepth 20000 in
theorem ggX8_parent_X0_has : GoodIn wsX8_parent wsX0_has := goodIn_r _ [12, 13, 179, 180, 181, 182] (by decide +kernel) (by decide +kernel)
set_option maxRecDepth 20000 in
theorem gX8_parent_X0_has : GoodIn wsX8_parent (wsV RX8 91 RX0 yX0_has wsX0_has) := goodIn_app (goodIn_of _ (by decide +kernel)) ggX8_parent_X0_has
set_option maxRecDepth 20000 in
theorem ggX8_parent_X8_isProduct : GoodIn wsX8_parent wsX8_isProduct := goodIn_r _ [18, 19, 20, 21, 22, 23, 24, 25, 26, 27, 28, 29, 30, 31, 32, 33, 34, 35, 36, 37, 38, 39, 17, 40, 41, 167, 168, 169, 170, 183, 184, 185, 186, 187] (by decide +kernel) (by decide +kernel)
set_option maxRecDepth 20000 in
theorem gX8_parent_X8_isProduct : GoodIn wsX8_parent (wsV RX8 213 RX8 yX8_isProduct wsX8_isProduct) := goodIn_app (goodIn_of _ (by decide +kernel)) ggX8_parent_X8_isProduct
set_option maxRecDepth 20000 in
theorem ggX8_parent_X7_look : GoodIn wsX8_parent wsX7_look := goodIn_r _ [46, 47, 48, 49, 50, 45, 51, 52, 53, 54, 55, 56, 57, 58, 59, 60, 61, 62, 63, 64, 65, 66, 67, 68, 69, 70, 71, 72, 73, 74, 75, 76, 77, 11, 78, 13, 79, 80, 81, 82, 83, 84, 85, 86, 87, 88, 89, 90, 34, 35, 36, 37, 38, 91, 92, 93, 94, 95, 96, 97, 98, 99, 100, 101, 102, 103, 104, 105, 106, 107, 108, 109, 39, 17, 40, 110, 111, 112, 113, 114, 115, 116, 117, 118, 119, 120, 121, 122, 123, 124, 125, 126, 127, 128, 129, 130, 131, 132, 133, 134, 135, 136, 137, 138, 139, 140, 141, 142, 143, 144, 145, 146, 147, 148, 149, 150, 151, 152, 153, 154, 155, 156, 157, 158, 159, 160, 161, 162, 188, 189, 190, 191, 192, 193, 194, 195, 171, 172, 173, 174, 175, 176, 177, 178, 196, 197, 198, 199, 200, 201, 202, 203, 204, 205, 206, 207, 208, 209, 179, 180, 181, 182, 187] (by decide +kernel) (by decide +kernel)
set_option maxRecDepth 20000 in
theorem gX8_parent_X7_look : GoodIn wsX8_parent (wsV RX8 218 RX7 yX7_look wsX7_look) := goodIn_app (goodIn_of _ (by decide +kernel)) ggX8_parent_X7_look
set_option maxRecDepth 20000 in
theorem ggX8_parent_X7_parentOf : GoodIn wsX8_parent wsX7_parentOf := goodIn_r _ [166, 118, 131, 34, 35, 36, 37, 38, 188, 189, 190, 191, 192, 193, 194, 195, 187] (by decide +kernel) (by decide +kernel)
set_option maxRecDepth 20000 in
theorem gX8_parent_X7_parentOf : GoodIn wsX8_parent (wsV RX8 222 RX7 yX7_parentOf wsX7_parentOf) := goodIn_app (goodIn_of _ (by decide +kernel)) ggX8_parent_X7_parentOf
theorem dX8_parent_0 : decode cX8_parent 0 = .ok (.aload_n 0, 1) := by decide +kernel
theorem dX8_parent_1 : decode cX8_parent 1 = .ok (.getfield 19, 3) := by decide +kernel
theorem dX8_parent_4 : decode cX8_parent 4 = .ok (.getfield 79, 3) := by decide +kernel
theorem dX8_parent_7 : decode cX8_parent 7 = .ok (.iload_n 1, 1) := by decide +kernel
theorem dX8_parent_8 : decode cX8_parent 8 = .ok (.invokevirtual 91, 3) := by decide +kernel
theorem dX8_parent_11 : decode cX8_parent 11 = .ok (.ifCond .ne 13, 3) := by decide +kernel
theorem dX8_parent_14 : decode cX8_parent 14 = .ok (.new 94, 3) := by decide +kernel
theorem dX8_parent_17 : decode cX8_parent 17 = .ok (.dup, 1) := by decide +kernel
theorem dX8_parent_18 : decode cX8_parent 18 = .ok (.ldc 96, 2) := by decide +kernel
theorem dX8_parent_20 : decode cX8_parent 20 = .ok (.invokespecial 98, 3) := by decide +kernel
theorem dX8_parent_23 : decode cX8_parent 23 = .ok (.athrow, 1) := by decide +kernel
theorem dX8_parent_24 : decode cX8_parent 24 = .ok (.aload_n 0, 1) := by decide +kernel
theorem dX8_parent_25 : decode cX8_parent 25 = .ok (.iload_n 2, 1) := by decide +kernel
theorem dX8_parent_26 : decode cX8_parent 26 = .ok (.invokevirtual 213, 3) := by decide +kernel
theorem dX8_parent_29 : decode cX8_parent 29 = .ok (.ifCond .ne 13, 3) := by decide +kernel
theorem dX8_parent_32 : decode cX8_parent 32 = .ok (.new 45, 3) := by decide +kernel
theorem dX8_parent_35 : decode cX8_parent 35 = .ok (.dup, 1) := by decide +kernel
theorem dX8_parent_36 : decode cX8_parent 36 = .ok (.ldc 216, 2) := by decide +kernel
theorem dX8_parent_38 : decode cX8_parent 38 = .ok (.invokespecial 49, 3) := by decide +kernel
theorem dX8_parent_41 : decode cX8_parent 41 = .ok (.athrow, 1) := by decide +kernel
theorem dX8_parent_42 : decode cX8_parent 42 = .ok (.aload_n 0, 1) := by decide +kernel
theorem dX8_parent_43 : decode cX8_parent 43 = .ok (.getfield 28, 3) := by decide +kernel
theorem dX8_parent_46 : decode cX8_parent 46 = .ok (.iload_n 2, 1) := by decide +kernel
theorem dX8_parent_47 : decode cX8_parent 47 = .ok (.invokevirtual 218, 3) := by decide +kernel
theorem dX8_parent_50 : decode cX8_parent 50 = .ok (.aload_n 0, 1) := by decide +kernel
theorem dX8_parent_51 : decode cX8_parent 51 = .ok (.getfield 28, 3) := by decide +kernel
theorem dX8_parent_54 : decode cX8_parent 54 = .ok (.iload_n 1, 1) := by decide +kernel
theorem dX8_parent_55 : decode cX8_parent 55 = .ok (.invokevirtual 222, 3) := by decide +kernel
theorem dX8_parent_58 : decode cX8_parent 58 = .ok (.ireturn, 1) := by decide +kernel
set_option maxRecDepth 20000 in
theorem ggX8_isBelow_X0_has : GoodIn wsX8_isBelow wsX0_has := goodIn_r _ [12, 13, 179, 180, 181, 182] (by decide +kernel) (by decide +kernel)
set_option maxRecDepth 20000 in
theorem gX8_isBelow_X0_has : GoodIn wsX8_isBelow (wsV RX8 91 RX0 yX0_has wsX0_has) := goodIn_app (goodIn_of _ (by decide +kernel)) ggX8_isBelow_X0_has
set_option maxRecDepth 20000 in
theorem ggX8_isBelow_X8_isProduct : GoodIn wsX8_isBelow wsX8_isProduct := goodIn_r _ [18, 19, 20, 21, 22, 23, 24, 25, 26, 27, 28, 29, 30, 31, 32, 33, 34, 35, 36, 37, 38, 39, 17, 40, 41, 167, 168, 169, 170, 183, 184, 185, 186, 187] (by decide +kernel) (by decide +kernel)
set_option maxRecDepth 20000 in
theorem gX8_isBelow_X8_isProduct : GoodIn wsX8_isBelow (wsV RX8 213 RX8 yX8_isProduct wsX8_isProduct) := goodIn_app (goodIn_of _ (by decide +kernel)) ggX8_isBelow_X8_isProduct
set_option maxRecDepth 20000 in
theorem ggX8_isBelow_X7_look : GoodIn wsX8_isBelow wsX7_look := goodIn_r _ [46, 47, 48, 49, 50, 45, 51, 52, 53, 54, 55, 56, 57, 58, 59, 60, 61, 62, 63, 64, 65, 66, 67, 68, 69, 70, 71, 72, 73, 74, 75, 76, 77, 11, 78, 13, 79, 80, 81, 82, 83, 84, 85, 86, 87, 88, 89, 90, 34, 35, 36, 37, 38, 91, 92, 93, 94, 95, 96, 97, 98, 99, 100, 101, 102, 103, 104, 105, 106, 107, 108, 109, 39, 17, 40, 110, 111, 112, 113, 114, 115, 116, 117, 118, 119, 120, 121, 122, 123, 124, 125, 126, 127, 128, 129, 130, 131, 132, 133, 134, 135, 136, 137, 138, 139, 140, 141, 142, 143, 144, 145, 146, 147, 148, 149, 150, 151, 152, 153, 154, 155, 156, 157, 158, 159, 160, 161, 162, 188, 189, 190, 191, 192, 193, 194, 195, 171, 172, 173, 174, 175, 176, 177, 178, 196, 197, 198, 199, 200, 201, 202, 203, 204, 205, 206, 207, 208, 209, 179, 180, 181, 182, 187] (by decide +kernel) (by decide +kernel)
set_option maxRecDepth 20000 in
theorem gX8_isBelow_X7_look : GoodIn wsX8_isBelow (wsV RX8 218 RX7 yX7_look wsX7_look) := goodIn_app (goodIn_of _ (by decide +kernel)) ggX8_isBelow_X7_look
set_option maxRecDepth 20000 in
theorem ggX8_isBelow_X7_isUnder : GoodIn wsX8_isBelow wsX7_isUnder := goodIn_r _ [166, 136, 131, 34, 35, 36, 37, 38, 39, 17, 40, 188, 189, 190, 191, 192, 193, 194, 195, 187] (by decide +kernel) (by decide +kernel)
set_option maxRecDepth 20000 in
theorem gX8_isBelow_X7_isUnder : GoodIn wsX8_isBelow (wsV RX8 225 RX7 yX7_isUnder wsX7_isUnder) := goodIn_app (goodIn_of _ (by decide +kernel)) ggX8_isBelow_X7_isUnder
theorem dX8_isBelow_0 : decode cX8_isBelow 0 = .ok (.aload_n 0, 1) := by decide +kernel
theorem dX8_isBelow_1 : decode cX8_isBelow 1 = .ok (.getfield 19, 3) := by decide +kernel
theorem dX8_isBelow_4 : decode cX8_isBelow 4 = .ok (.getfield 79, 3) := by decide +kernel
theorem dX8_isBelow_7 : decode cX8_isBelow 7 = .ok (.iload_n 1, 1) := by decide +kernel
theorem dX8_isBelow_8 : decode cX8_isBelow 8 = .ok (.invokevirtual 91, 3) := by decide +kernel
theorem dX8_isBelow_11 : decode cX8_isBelow 11 = .ok (.ifCond .eq 17, 3) := by decide +kernel
theorem dX8_isBelow_14 : decode cX8_isBelow 14 = .ok (.aload_n 0, 1) := by decide +kernel
theorem dX8_isBelow_15 : decode cX8_isBelow 15 = .ok (.getfield 19, 3) := by decide +kernel
theorem dX8_isBelow_18 : decode cX8_isBelow 18 = .ok (.getfield 79, 3) := by decide +kernel
theorem dX8_isBelow_21 : decode cX8_isBelow 21 = .ok (.iload_n 2, 1) := by decide +kernel
theorem dX8_isBelow_22 : decode cX8_isBelow 22 = .ok (.invokevirtual 91, 3) := by decide +kernel
theorem dX8_isBelow_25 : decode cX8_isBelow 25 = .ok (.ifCond .ne 13, 3) := by decide +kernel
theorem dX8_isBelow_28 : decode cX8_isBelow 28 = .ok (.new 94, 3) := by decide +kernel
theorem dX8_isBelow_31 : decode cX8_isBelow 31 = .ok (.dup, 1) := by decide +kernel
theorem dX8_isBelow_32 : decode cX8_isBelow 32 = .ok (.ldc 96, 2) := by decide +kernel
theorem dX8_isBelow_34 : decode cX8_isBelow 34 = .ok (.invokespecial 98, 3) := by decide +kernel
theorem dX8_isBelow_37 : decode cX8_isBelow 37 = .ok (.athrow, 1) := by decide +kernel
theorem dX8_isBelow_38 : decode cX8_isBelow 38 = .ok (.aload_n 0, 1) := by decide +kernel
theorem dX8_isBelow_39 : decode cX8_isBelow 39 = .ok (.iload_n 3, 1) := by decide +kernel
theorem dX8_isBelow_40 : decode cX8_isBelow 40 = .ok (.invokevirtual 213, 3) := by decide +kernel
theorem dX8_isBelow_43 : decode cX8_isBelow 43 = .ok (.ifCond .ne 13, 3) := by decide +kernel
theorem dX8_isBelow_46 : decode cX8_isBelow 46 = .ok (.new 45, 3) := by decide +kernel
theorem dX8_isBelow_49 : decode cX8_isBelow 49 = .ok (.dup, 1) := by decide +kernel
theorem dX8_isBelow_50 : decode cX8_isBelow 50 = .ok (.ldc 216, 2) := by decide +kernel
theorem dX8_isBelow_52 : decode cX8_isBelow 52 = .ok (.invokespecial 49, 3) := by decide +kernel
theorem dX8_isBelow_55 : decode cX8_isBelow 55 = .ok (.athrow, 1) := by decide +kernel
theorem dX8_isBelow_56 : decode cX8_isBelow 56 = .ok (.aload_n 0, 1) := by decide +kernel
theorem dX8_isBelow_57 : decode cX8_isBelow 57 = .ok (.getfield 28, 3) := by decide +kernel
theorem dX8_isBelow_60 : decode cX8_isBelow 60 = .ok (.iload_n 3, 1) := by decide +kernel
theorem dX8_isBelow_61 : decode cX8_isBelow 61 = .ok (.invokevirtual 218, 3) := by decide +kernel
theorem dX8_isBelow_64 : decode cX8_isBelow 64 = .ok (.aload_n 0, 1) := by decide +kernel
theorem dX8_isBelow_65 : decode cX8_isBelow 65 = .ok (.getfield 28, 3) := by decide +kernel
theorem dX8_isBelow_68 : decode cX8_isBelow 68 = .ok (.iload_n 1, 1) := by decide +kernel
theorem dX8_isBelow_69 : decode cX8_isBelow 69 = .ok (.iload_n 2, 1) := by decide +kernel
theorem dX8_isBelow_70 : decode cX8_isBelow 70 = .ok (.invokevirtual 225, 3) := by decide +kernel
theorem dX8_isBelow_73 : decode cX8_isBelow 73 = .ok (.ireturn, 1) := by decide +kernel
set_option maxRecDepth 20000 in
theorem ggX8_find_X0_has : GoodIn wsX8_find wsX0_has := goodIn_r _ [12, 13, 182, 183, 184, 185] (by decide +kernel) (by decide +kernel)
set_option maxRecDepth 20000 in
theorem gX8_find_X0_has : GoodIn wsX8_find (wsV RX8 91 RX0 yX0_has wsX0_has) := goodIn_app (goodIn_of _ (by decide +kernel)) ggX8_find_X0_has
set_option maxRecDepth 20000 in
theorem ggX8_find_X8_isName : GoodIn wsX8_find wsX8_isName := goodIn_r _ [17] (by decide +kernel) (by decide +kernel)
set_option maxRecDepth 20000 in
theorem gX8_find_X8_isName : GoodIn wsX8_find (va_wsS RX8 108 yX8_isName wsX8_isName) := goodIn_app (goodIn_of _ (by decide +kernel)) ggX8_find_X8_isName
set_option maxRecDepth 20000 in
theorem ggX8_find_X8_isProduct : GoodIn wsX8_find wsX8_isProduct := goodIn_r _ [21, 22, 23, 24, 25, 26, 27, 28, 29, 30, 31, 32, 33, 34, 35, 36, 37, 38, 39, 40, 41, 42, 16, 43, 44, 170, 171, 172, 173, 186, 187, 188, 189, 190] (by decide +kernel) (by decide +kernel)
set_option maxRecDepth 20000 in
theorem gX8_find_X8_isProduct : GoodIn wsX8_find (wsV RX8 213 RX8 yX8_isProduct wsX8_isProduct) := goodIn_app (goodIn_of _ (by decide +kernel)) ggX8_find_X8_isProduct
set_option maxRecDepth 20000 in
theorem ggX8_find_X7_look : GoodIn wsX8_find wsX7_look := goodIn_r _ [49, 50, 51, 52, 53, 48, 54, 55, 56, 57, 58, 59, 60, 61, 62, 63, 64, 65, 66, 67, 68, 69, 70, 71, 72, 73, 74, 75, 76, 77, 78, 79, 80, 11, 81, 13, 82, 83, 84, 85, 86, 87, 88, 89, 90, 91, 92, 93, 37, 38, 39, 40, 41, 94, 95, 96, 97, 98, 99, 100, 101, 102, 103, 104, 105, 106, 107, 108, 109, 110, 111, 112, 42, 16, 43, 113, 114, 115, 116, 117, 118, 119, 120, 121, 122, 123, 124, 125, 126, 127, 128, 129, 130, 131, 132, 133, 134, 135, 136, 137, 138, 139, 140, 141, 142, 143, 144, 145, 146, 147, 148, 149, 150, 151, 152, 153, 154, 155, 156, 157, 158, 159, 160, 161, 162, 163, 164, 165, 191, 192, 193, 194, 195, 196, 197, 198, 174, 175, 176, 177, 178, 179, 180, 181, 199, 200, 201, 202, 203, 204, 205, 206, 207, 208, 209, 210, 211, 212, 182, 183, 184, 185, 190] (by decide +kernel) (by decide +kernel)
set_option maxRecDepth 20000 in
theorem gX8_find_X7_look : GoodIn wsX8_find (wsV RX8 218 RX7 yX7_look wsX7_look) := goodIn_app (goodIn_of _ (by decide +kernel)) ggX8_find_X7_look
set_option maxRecDepth 20000 in
theorem ggX8_find_X7_lookUp : GoodIn wsX8_find wsX7_lookUp := goodIn_r _ [169, 144, 121, 163, 164, 48, 165, 134, 37, 38, 39, 40, 41, 191, 192, 193, 194, 195, 196, 197, 198, 190] (by decide +kernel) (by decide +kernel)
set_option maxRecDepth 20000 in
theorem gX8_find_X7_lookUp : GoodIn wsX8_find (wsV RX8 230 RX7 yX7_lookUp wsX7_lookUp) := goodIn_app (goodIn_of _ (by decide +kernel)) ggX8_find_X7_lookUp
theorem dX8_find_0 : decode cX8_find 0 = .ok (.aload_n 0, 1) := by decide +kernel
theorem dX8_find_1 : decode cX8_find 1 = .ok (.getfield 19, 3) := by decide +kernel
theorem dX8_find_4 : decode cX8_find 4 = .ok (.getfield 79, 3) := by decide +kernel
theorem dX8_find_7 : decode cX8_find 7 = .ok (.iload_n 1, 1) := by decide +kernel
theorem dX8_find_8 : decode cX8_find 8 = .ok (.invokevirtual 91, 3) := by decide +kernel
theorem dX8_find_11 : decode cX8_find 11 = .ok (.ifCond .ne 13, 3) := by decide +kernel
theorem dX8_find_14 : decode cX8_find 14 = .ok (.new 94, 3) := by decide +kernel
theorem dX8_find_17 : decode cX8_find 17 = .ok (.dup, 1) := by decide +kernel
theorem dX8_find_18 : decode cX8_find 18 = .ok (.ldc 96, 2) := by decide +kernel
theorem dX8_find_20 : decode cX8_find 20 = .ok (.invokespecial 98, 3) := by decide +kernel
theorem dX8_find_23 : decode cX8_find 23 = .ok (.athrow, 1) := by decide +kernel
theorem dX8_find_24 : decode cX8_find 24 = .ok (.iload_n 2, 1) := by decide +kernel
theorem dX8_find_25 : decode cX8_find 25 = .ok (.invokestatic 108, 3) := by decide +kernel
theorem dX8_find_28 : decode cX8_find 28 = .ok (.ifCond .eq 12, 3) := by decide +kernel
theorem dX8_find_31 : decode cX8_find 31 = .ok (.aload_n 0, 1) := by decide +kernel
theorem dX8_find_32 : decode cX8_find 32 = .ok (.iload 4, 2) := by decide +kernel
theorem dX8_find_34 : decode cX8_find 34 = .ok (.invokevirtual 213, 3) := by decide +kernel
theorem dX8_find_37 : decode cX8_find 37 = .ok (.ifCond .ne 13, 3) := by decide +kernel
theorem dX8_find_40 : decode cX8_find 40 = .ok (.new 45, 3) := by decide +kernel
theorem dX8_find_43 : decode cX8_find 43 = .ok (.dup, 1) := by decide +kernel
theorem dX8_find_44 : decode cX8_find 44 = .ok (.ldc 228, 2) := by decide +kernel
theorem dX8_find_46 : decode cX8_find 46 = .ok (.invokespecial 49, 3) := by decide +kernel
theorem dX8_find_49 : decode cX8_find 49 = .ok (.athrow, 1) := by decide +kernel
theorem dX8_find_50 : decode cX8_find 50 = .ok (.aload_n 0, 1) := by decide +kernel
theorem dX8_find_51 : decode cX8_find 51 = .ok (.getfield 28, 3) := by decide +kernel
theorem dX8_find_54 : decode cX8_find 54 = .ok (.iload 4, 2) := by decide +kernel
theorem dX8_find_56 : decode cX8_find 56 = .ok (.invokevirtual 218, 3) := by decide +kernel
theorem dX8_find_59 : decode cX8_find 59 = .ok (.aload_n 0, 1) := by decide +kernel
theorem dX8_find_60 : decode cX8_find 60 = .ok (.getfield 28, 3) := by decide +kernel
theorem dX8_find_63 : decode cX8_find 63 = .ok (.iload_n 1, 1) := by decide +kernel
theorem dX8_find_64 : decode cX8_find 64 = .ok (.iload_n 2, 1) := by decide +kernel
theorem dX8_find_65 : decode cX8_find 65 = .ok (.iload_n 3, 1) := by decide +kernel
theorem dX8_find_66 : decode cX8_find 66 = .ok (.ifCond .eq 7, 3) := by decide +kernel
theorem dX8_find_69 : decode cX8_find 69 = .ok (.iconst 1, 1) := by decide +kernel
theorem dX8_find_70 : decode cX8_find 70 = .ok (.goto 4, 3) := by decide +kernel
theorem dX8_find_73 : decode cX8_find 73 = .ok (.iconst 0, 1) := by decide +kernel
theorem dX8_find_74 : decode cX8_find 74 = .ok (.invokevirtual 230, 3) := by decide +kernel
theorem dX8_find_77 : decode cX8_find 77 = .ok (.ireturn, 1) := by decide +kernel
set_option maxRecDepth 20000 in
theorem ggX8_typeOf_X1_has : GoodIn wsX8_typeOf wsX1_has := goodIn_r _ [12, 13, 267, 268, 269, 270, 271, 272, 273] (by decide +kernel) (by decide +kernel)
set_option maxRecDepth 20000 in
theorem gX8_typeOf_X1_has : GoodIn wsX8_typeOf (wsV RX8 159 RX1 yX1_has wsX1_has) := goodIn_app (goodIn_of _ (by decide +kernel)) ggX8_typeOf_X1_has
set_option maxRecDepth 20000 in
theorem ggX8_typeOf_X8_isProduct : GoodIn wsX8_typeOf wsX8_isProduct := goodIn_r _ [18, 19, 20, 21, 22, 23, 24, 25, 26, 27, 28, 29, 30, 31, 32, 33, 34, 35, 36, 37, 38, 39, 17, 40, 41, 255, 256, 257, 258, 274, 275, 276, 277, 278] (by decide +kernel) (by decide +kernel)
set_option maxRecDepth 20000 in
theorem gX8_typeOf_X8_isProduct : GoodIn wsX8_typeOf (wsV RX8 213 RX8 yX8_isProduct wsX8_isProduct) := goodIn_app (goodIn_of _ (by decide +kernel)) ggX8_typeOf_X8_isProduct
set_option maxRecDepth 20000 in
theorem ggX8_typeOf_X7_look : GoodIn wsX8_typeOf wsX7_look := goodIn_r _ [46, 47, 48, 49, 50, 45, 51, 52, 53, 54, 55, 56, 57, 58, 59, 60, 61, 62, 11, 63, 13, 64, 65, 66, 67, 68, 69, 70, 71, 72, 73, 74, 75, 76, 77, 78, 79, 80, 81, 82, 83, 84, 85, 86, 87, 88, 89, 90, 34, 35, 36, 37, 38, 91, 92, 93, 94, 95, 96, 97, 98, 99, 100, 101, 102, 103, 104, 105, 106, 107, 108, 109, 39, 17, 40, 110, 111, 112, 113, 114, 115, 116, 117, 118, 119, 120, 121, 122, 123, 124, 125, 126, 127, 128, 129, 130, 131, 132, 133, 134, 135, 136, 137, 138, 139, 140, 141, 142, 143, 144, 145, 146, 147, 148, 149, 150, 151, 152, 153, 154, 155, 156, 157, 158, 159, 160, 161, 162, 279, 280, 281, 282, 283, 284, 285, 286, 259, 260, 261, 262, 263, 264, 265, 266, 267, 268, 269, 270, 271, 272, 273, 287, 288, 289, 290, 291, 292, 293, 294, 295, 296, 297, 278] (by decide +kernel) (by decide +kernel)
set_option maxRecDepth 20000 in
theorem gX8_typeOf_X7_look : GoodIn wsX8_typeOf (wsV RX8 218 RX7 yX7_look wsX7_look) := goodIn_app (goodIn_of _ (by decide +kernel)) ggX8_typeOf_X7_look
set_option maxRecDepth 20000 in
theorem ggX8_typeOf_X7_giveTypes : GoodIn wsX8_typeOf wsX7_giveTypes := goodIn_r _ [166, 52, 167, 168, 169, 47, 170, 61, 62, 11, 63, 13, 171, 105, 106, 107, 108, 109, 34, 35, 36, 37, 38, 127, 128, 129, 45, 130, 53, 131, 39, 17, 40, 172, 173, 174, 175, 176, 177, 178, 179, 180, 181, 182, 183, 184, 185, 186, 187, 188, 189, 190, 191, 192, 193, 194, 195, 196, 197, 198, 199, 200, 201, 202, 203, 204, 205, 206, 207, 208, 209, 210, 211, 212, 213, 214, 215, 216, 217, 218, 219, 220, 221, 222, 223, 141, 118, 160, 161, 162, 224, 225, 226, 227, 142, 228, 229, 230, 95, 231, 232, 233, 98, 234, 235, 236, 237, 238, 239, 240, 241, 136, 242, 243, 244, 245, 149, 93, 94, 96, 97, 246, 247, 248, 249, 250, 110, 111, 112, 113, 279, 280, 281, 282, 283, 284, 285, 286, 259, 260, 261, 262, 263, 264, 265, 266, 267, 268, 269, 270, 271, 272, 273, 278, 287, 288, 289, 290, 291, 292, 293] (by decide +kernel) (by decide +kernel)
set_option maxRecDepth 20000 in
theorem gX8_typeOf_X7_giveTypes : GoodIn wsX8_typeOf (wsV RX8 233 RX7 yX7_giveTypes wsX7_giveTypes) := goodIn_app (goodIn_of _ (by decide +kernel)) ggX8_typeOf_X7_giveTypes
set_option maxRecDepth 20000 in
theorem ggX8_typeOf_X7_typeIn : GoodIn wsX8_typeOf wsX7_typeIn := goodIn_r _ [254, 169, 189, 190, 45, 191, 131, 34, 35, 36, 37, 38, 279, 280, 281, 282, 283, 284, 285, 286, 278] (by decide +kernel) (by decide +kernel)
set_option maxRecDepth 20000 in
theorem gX8_typeOf_X7_typeIn : GoodIn wsX8_typeOf (wsV RX8 236 RX7 yX7_typeIn wsX7_typeIn) := goodIn_app (goodIn_of _ (by decide +kernel)) ggX8_typeOf_X7_typeIn
theorem dX8_typeOf_0 : decode cX8_typeOf 0 = .ok (.aload_n 0, 1) := by decide +kernel
theorem dX8_typeOf_1 : decode cX8_typeOf 1 = .ok (.getfield 19, 3) := by decide +kernel
theorem dX8_typeOf_4 : decode cX8_typeOf 4 = .ok (.getfield 140, 3) := by decide +kernel
theorem dX8_typeOf_7 : decode cX8_typeOf 7 = .ok (.iload_n 1, 1) := by decide +kernel
theorem dX8_typeOf_8 : decode cX8_typeOf 8 = .ok (.invokevirtual 159, 3) := by decide +kernel
theorem dX8_typeOf_11 : decode cX8_typeOf 11 = .ok (.ifCond .ne 13, 3) := by decide +kernel
theorem dX8_typeOf_14 : decode cX8_typeOf 14 = .ok (.new 94, 3) := by decide +kernel
theorem dX8_typeOf_17 : decode cX8_typeOf 17 = .ok (.dup, 1) := by decide +kernel
theorem dX8_typeOf_18 : decode cX8_typeOf 18 = .ok (.ldc 160, 2) := by decide +kernel
theorem dX8_typeOf_20 : decode cX8_typeOf 20 = .ok (.invokespecial 98, 3) := by decide +kernel
theorem dX8_typeOf_23 : decode cX8_typeOf 23 = .ok (.athrow, 1) := by decide +kernel
theorem dX8_typeOf_24 : decode cX8_typeOf 24 = .ok (.aload_n 0, 1) := by decide +kernel
theorem dX8_typeOf_25 : decode cX8_typeOf 25 = .ok (.iload_n 2, 1) := by decide +kernel
theorem dX8_typeOf_26 : decode cX8_typeOf 26 = .ok (.invokevirtual 213, 3) := by decide +kernel
theorem dX8_typeOf_29 : decode cX8_typeOf 29 = .ok (.ifCond .ne 13, 3) := by decide +kernel
theorem dX8_typeOf_32 : decode cX8_typeOf 32 = .ok (.new 45, 3) := by decide +kernel
theorem dX8_typeOf_35 : decode cX8_typeOf 35 = .ok (.dup, 1) := by decide +kernel
theorem dX8_typeOf_36 : decode cX8_typeOf 36 = .ok (.ldc 216, 2) := by decide +kernel
theorem dX8_typeOf_38 : decode cX8_typeOf 38 = .ok (.invokespecial 49, 3) := by decide +kernel
theorem dX8_typeOf_41 : decode cX8_typeOf 41 = .ok (.athrow, 1) := by decide +kernel
theorem dX8_typeOf_42 : decode cX8_typeOf 42 = .ok (.aload_n 0, 1) := by decide +kernel
theorem dX8_typeOf_43 : decode cX8_typeOf 43 = .ok (.getfield 28, 3) := by decide +kernel
theorem dX8_typeOf_46 : decode cX8_typeOf 46 = .ok (.iload_n 2, 1) := by decide +kernel
theorem dX8_typeOf_47 : decode cX8_typeOf 47 = .ok (.invokevirtual 218, 3) := by decide +kernel
theorem dX8_typeOf_50 : decode cX8_typeOf 50 = .ok (.aload_n 0, 1) := by decide +kernel
theorem dX8_typeOf_51 : decode cX8_typeOf 51 = .ok (.getfield 28, 3) := by decide +kernel
theorem dX8_typeOf_54 : decode cX8_typeOf 54 = .ok (.invokevirtual 233, 3) := by decide +kernel
theorem dX8_typeOf_57 : decode cX8_typeOf 57 = .ok (.aload_n 0, 1) := by decide +kernel
theorem dX8_typeOf_58 : decode cX8_typeOf 58 = .ok (.getfield 28, 3) := by decide +kernel
theorem dX8_typeOf_61 : decode cX8_typeOf 61 = .ok (.iload_n 1, 1) := by decide +kernel
theorem dX8_typeOf_62 : decode cX8_typeOf 62 = .ok (.iload_n 2, 1) := by decide +kernel
theorem dX8_typeOf_63 : decode cX8_typeOf 63 = .ok (.invokevirtual 236, 3) := by decide +kernel
theorem dX8_typeOf_66 : decode cX8_typeOf 66 = .ok (.ireturn, 1) := by decide +kernel
set_option maxRecDepth 20000 in
theorem ggX8_errorCount_X8_products : GoodIn wsX8_errorCount wsX8_products := goodIn_r _ [6, 7, 8, 9, 10, 11, 12, 13, 14, 15, 16, 17, 18, 19, 20, 21, 22, 23, 24, 25, 26, 27, 5, 28, 347, 348, 349, 350, 351, 352, 353, 354, 355] (by decide +kernel) (by decide +kernel)
set_option maxRecDepth 20000 in
theorem gX8_errorCount_X8_products : GoodIn wsX8_errorCount (wsV RX8 210 RX8 yX8_products wsX8_products) := goodIn_app (goodIn_of _ (by decide +kernel)) ggX8_errorCount_X8_products
set_option maxRecDepth 20000 in
theorem ggX8_errorCount_X2_inspect : GoodIn wsX8_errorCount wsX2_inspect := goodIn_r _ [33, 34, 35, 36, 37, 38, 24, 39, 26, 27, 5, 28, 40, 41, 42, 43, 44, 45, 46, 47, 48, 49, 50, 51, 52, 53, 54, 55, 56, 57, 58, 59, 60, 61, 62, 63, 64, 65, 66, 67, 68, 69, 70, 71, 72, 73, 74, 75, 76, 77, 78, 79, 80, 81, 82, 83, 84, 85, 86, 87, 88, 89, 90, 22, 23, 25, 91, 92, 93, 94, 95, 96, 97, 98, 99, 100, 101, 102, 103, 104, 105, 106, 107, 108, 109, 110, 111, 112, 113, 114, 115, 116, 117, 118, 119, 120, 121, 122, 123, 124, 125, 126, 127, 128, 129, 130, 131, 132, 133, 134, 135, 136, 137, 138, 139, 140, 141, 142, 143, 144, 145, 146, 147, 148, 149, 150, 151, 152, 153, 154, 155, 156, 157, 158, 159, 160, 161, 162, 163, 164, 165, 166, 167, 168, 169, 170, 171, 172, 173, 174, 175, 176, 177, 178, 179, 180, 181, 182, 183, 184, 185, 186, 187, 188, 189, 190, 191, 192, 193, 194, 195, 196, 197, 198, 199, 200, 201, 202, 203, 204, 205, 206, 207, 208, 209, 210, 211, 212, 213, 214, 215, 216, 217, 218, 219, 220, 221, 222, 223, 224, 225, 226, 227, 228, 229, 230, 231, 232, 233, 234, 235, 236, 237, 238, 239, 240, 241, 242, 243, 244, 245, 246, 247, 248, 249, 250, 32, 251, 252, 253, 254, 255, 256, 257, 258, 259, 260, 261, 262, 263, 264, 265, 266, 267, 268, 269, 270, 271, 272, 273, 274, 275, 276, 277, 278, 279, 280, 281, 282, 283, 284, 285, 286, 287, 288, 289, 290, 291, 292, 293, 294, 295, 296, 297, 298, 299, 300, 301, 302, 303, 304, 305, 306, 307, 308, 309, 310, 311, 312, 313, 314, 315, 316, 317, 318, 319, 320, 321, 322, 323, 324, 325, 326, 327, 328, 329, 330, 331, 332, 333, 334, 335, 336, 337, 338, 339, 340, 341, 342, 356, 357, 358, 359, 360, 355, 361, 362, 363, 364, 365, 366, 367, 368, 369, 370, 371, 372, 373, 374, 375, 376, 377, 378, 379, 380, 381, 382, 383, 384, 385, 386, 387, 388, 389, 390, 391, 392, 393, 394] (by decide +kernel) (by decide +kernel)
set_option maxRecDepth 20000 in
theorem gX8_errorCount_X2_inspect : GoodIn wsX8_errorCount (wsV RX8 239 RX2 yX2_inspect wsX2_inspect) := goodIn_app (goodIn_of _ (by decide +kernel)) ggX8_errorCount_X2_inspect
set_option maxRecDepth 20000 in
theorem ggX8_errorCount_X2_size : GoodIn wsX8_errorCount wsX2_size := goodIn_r _ [346, 341, 356, 357, 358, 359, 360] (by decide +kernel) (by decide +kernel)
set_option maxRecDepth 20000 in
theorem gX8_errorCount_X2_size : GoodIn wsX8_errorCount (wsV RX8 242 RX2 yX2_size wsX2_size) := goodIn_app (goodIn_of _ (by decide +kernel)) ggX8_errorCount_X2_size
theorem dX8_errorCount_0 : decode cX8_errorCount 0 = .ok (.aload_n 0, 1) := by decide +kernel
theorem dX8_errorCount_1 : decode cX8_errorCount 1 = .ok (.getfield 37, 3) := by decide +kernel
theorem dX8_errorCount_4 : decode cX8_errorCount 4 = .ok (.aload_n 0, 1) := by decide +kernel
theorem dX8_errorCount_5 : decode cX8_errorCount 5 = .ok (.invokevirtual 210, 3) := by decide +kernel
theorem dX8_errorCount_8 : decode cX8_errorCount 8 = .ok (.invokevirtual 239, 3) := by decide +kernel
theorem dX8_errorCount_11 : decode cX8_errorCount 11 = .ok (.aload_n 0, 1) := by decide +kernel
theorem dX8_errorCount_12 : decode cX8_errorCount 12 = .ok (.getfield 37, 3) := by decide +kernel
theorem dX8_errorCount_15 : decode cX8_errorCount 15 = .ok (.invokevirtual 242, 3) := by decide +kernel
theorem dX8_errorCount_18 : decode cX8_errorCount 18 = .ok (.ireturn, 1) := by decide +kernel
set_option maxRecDepth 20000 in
theorem ggX8_error_X8_products : GoodIn wsX8_error wsX8_products := goodIn_r _ [8, 9, 10, 11, 12, 13, 14, 15, 16, 17, 18, 19, 20, 21, 22, 23, 24, 25, 26, 27, 28, 29, 7, 30, 361, 362, 363, 364, 365, 366, 367, 368, 369] (by decide +kernel) (by decide +kernel)
set_option maxRecDepth 20000 in
theorem gX8_error_X8_products : GoodIn wsX8_error (wsV RX8 210 RX8 yX8_products wsX8_products) := goodIn_app (goodIn_of _ (by decide +kernel)) ggX8_error_X8_products
set_option maxRecDepth 20000 in
theorem ggX8_error_X2_inspect : GoodIn wsX8_error wsX2_inspect := goodIn_r _ [35, 36, 37, 38, 39, 40, 26, 41, 28, 29, 7, 30, 42, 43, 44, 45, 46, 47, 48, 49, 50, 51, 52, 53, 54, 55, 56, 57, 58, 59, 60, 61, 62, 63, 64, 65, 66, 67, 68, 69, 70, 71, 72, 73, 74, 75, 76, 77, 78, 79, 80, 81, 82, 83, 84, 85, 86, 87, 88, 89, 90, 91, 92, 24, 25, 27, 93, 94, 95, 96, 97, 98, 99, 100, 101, 102, 103, 104, 105, 106, 107, 108, 109, 110, 111, 112, 113, 114, 115, 116, 117, 118, 119, 120, 121, 122, 123, 124, 125, 126, 127, 128, 129, 130, 131, 132, 133, 134, 135, 136, 137, 138, 139, 140, 141, 142, 143, 144, 145, 146, 147, 148, 149, 150, 151, 152, 153, 154, 155, 156, 157, 158, 159, 160, 161, 162, 163, 164, 165, 166, 167, 168, 169, 170, 171, 172, 173, 174, 175, 176, 177, 178, 179, 180, 181, 182, 183, 184, 185, 186, 187, 188, 189, 190, 191, 192, 193, 194, 195, 196, 197, 198, 199, 200, 201, 202, 203, 204, 205, 206, 207, 208, 209, 210, 211, 212, 213, 214, 215, 216, 217, 218, 219, 220, 221, 222, 223, 224, 225, 226, 227, 228, 229, 230, 231, 232, 233, 234, 235, 236, 237, 238, 239, 240, 241, 242, 243, 244, 245, 246, 247, 248, 249, 250, 251, 252, 34, 253, 254, 255, 256, 257, 258, 259, 260, 261, 262, 263, 264, 265, 266, 267, 268, 269, 270, 271, 272, 273, 274, 275, 276, 277, 278, 279, 280, 281, 282, 283, 284, 285, 286, 287, 288, 289, 290, 291, 292, 293, 294, 295, 296, 297, 298, 299, 300, 301, 302, 303, 304, 305, 306, 307, 308, 309, 310, 311, 312, 313, 314, 315, 316, 317, 318, 319, 320, 321, 322, 323, 324, 325, 326, 327, 328, 329, 330, 331, 332, 333, 334, 335, 336, 337, 338, 339, 340, 341, 342, 343, 344, 370, 371, 372, 373, 374, 369, 375, 376, 377, 378, 379, 380, 381, 382, 383, 384, 385, 386, 387, 388, 389, 390, 391, 392, 393, 394, 395, 396, 397, 398, 399, 400, 401, 402, 403, 404, 405, 406, 407, 408] (by decide +kernel) (by decide +kernel)
set_option maxRecDepth 20000 in
theorem gX8_error_X2_inspect : GoodIn wsX8_error (wsV RX8 239 RX2 yX2_inspect wsX2_inspect) := goodIn_app (goodIn_of _ (by decide +kernel)) ggX8_error_X2_inspect
set_option maxRecDepth 20000 in
theorem ggX8_error_X2_size : GoodIn wsX8_error wsX2_size := goodIn_r _ [348, 343, 370, 371, 372, 373, 374] (by decide +kernel) (by decide +kernel)
set_option maxRecDepth 20000 in
theorem gX8_error_X2_size : GoodIn wsX8_error (wsV RX8 242 RX2 yX2_size wsX2_size) := goodIn_app (goodIn_of _ (by decide +kernel)) ggX8_error_X2_size
set_option maxRecDepth 20000 in
theorem ggX8_error_X2_kindOf : GoodIn wsX8_error wsX2_kindOf := goodIn_r _ [352, 344, 265, 24, 25, 26, 27, 28, 370, 371, 372, 373, 374, 369] (by decide +kernel) (by decide +kernel)
set_option maxRecDepth 20000 in
theorem gX8_error_X2_kindOf : GoodIn wsX8_error (wsV RX8 245 RX2 yX2_kindOf wsX2_kindOf) := goodIn_app (goodIn_of _ (by decide +kernel)) ggX8_error_X2_kindOf
set_option maxRecDepth 20000 in
theorem ggX8_error_X2_elementOf : GoodIn wsX8_error wsX2_elementOf := goodIn_r _ [356, 344, 265, 24, 25, 26, 27, 28, 370, 371, 372, 373, 374, 369] (by decide +kernel) (by decide +kernel)
set_option maxRecDepth 20000 in
theorem gX8_error_X2_elementOf : GoodIn wsX8_error (wsV RX8 248 RX2 yX2_elementOf wsX2_elementOf) := goodIn_app (goodIn_of _ (by decide +kernel)) ggX8_error_X2_elementOf
set_option maxRecDepth 20000 in
theorem ggX8_error_X2_productsOf : GoodIn wsX8_error wsX2_productsOf := goodIn_r _ [360, 36, 344, 265, 24, 25, 26, 27, 28, 370, 371, 372, 373, 374, 369] (by decide +kernel) (by decide +kernel)
set_option maxRecDepth 20000 in
theorem gX8_error_X2_productsOf : GoodIn wsX8_error (wsV RX8 251 RX2 yX2_productsOf wsX2_productsOf) := goodIn_app (goodIn_of _ (by decide +kernel)) ggX8_error_X2_productsOf
theorem dX8_error_0 : decode cX8_error 0 = .ok (.aload_n 0, 1) := by decide +kernel
theorem dX8_error_1 : decode cX8_error 1 = .ok (.getfield 37, 3) := by decide +kernel
theorem dX8_error_4 : decode cX8_error 4 = .ok (.aload_n 0, 1) := by decide +kernel
theorem dX8_error_5 : decode cX8_error 5 = .ok (.invokevirtual 210, 3) := by decide +kernel
theorem dX8_error_8 : decode cX8_error 8 = .ok (.invokevirtual 239, 3) := by decide +kernel
theorem dX8_error_11 : decode cX8_error 11 = .ok (.iload_n 1, 1) := by decide +kernel
theorem dX8_error_12 : decode cX8_error 12 = .ok (.ifCond .lt 23, 3) := by decide +kernel
theorem dX8_error_15 : decode cX8_error 15 = .ok (.iload_n 1, 1) := by decide +kernel
theorem dX8_error_16 : decode cX8_error 16 = .ok (.aload_n 0, 1) := by decide +kernel
theorem dX8_error_17 : decode cX8_error 17 = .ok (.getfield 37, 3) := by decide +kernel
theorem dX8_error_20 : decode cX8_error 20 = .ok (.invokevirtual 242, 3) := by decide +kernel
theorem dX8_error_23 : decode cX8_error 23 = .ok (.if_icmp .ge 12, 3) := by decide +kernel
theorem dX8_error_26 : decode cX8_error 26 = .ok (.iload_n 2, 1) := by decide +kernel
theorem dX8_error_27 : decode cX8_error 27 = .ok (.ifCond .lt 8, 3) := by decide +kernel
theorem dX8_error_30 : decode cX8_error 30 = .ok (.iload_n 2, 1) := by decide +kernel
theorem dX8_error_31 : decode cX8_error 31 = .ok (.iconst 2, 1) := by decide +kernel
theorem dX8_error_32 : decode cX8_error 32 = .ok (.if_icmp .le 13, 3) := by decide +kernel
theorem dX8_error_35 : decode cX8_error 35 = .ok (.new 94, 3) := by decide +kernel
theorem dX8_error_38 : decode cX8_error 38 = .ok (.dup, 1) := by decide +kernel
theorem dX8_error_39 : decode cX8_error 39 = .ok (.ldc 243, 2) := by decide +kernel
theorem dX8_error_41 : decode cX8_error 41 = .ok (.invokespecial 98, 3) := by decide +kernel
theorem dX8_error_44 : decode cX8_error 44 = .ok (.athrow, 1) := by decide +kernel
theorem dX8_error_45 : decode cX8_error 45 = .ok (.iload_n 2, 1) := by decide +kernel
theorem dX8_error_46 : decode cX8_error 46 = .ok (.ifCond .ne 14, 3) := by decide +kernel
theorem dX8_error_49 : decode cX8_error 49 = .ok (.aload_n 0, 1) := by decide +kernel
theorem dX8_error_50 : decode cX8_error 50 = .ok (.getfield 37, 3) := by decide +kernel
theorem dX8_error_53 : decode cX8_error 53 = .ok (.iload_n 1, 1) := by decide +kernel
theorem dX8_error_54 : decode cX8_error 54 = .ok (.invokevirtual 245, 3) := by decide +kernel
theorem dX8_error_57 : decode cX8_error 57 = .ok (.goto 27, 3) := by decide +kernel
theorem dX8_error_60 : decode cX8_error 60 = .ok (.iload_n 2, 1) := by decide +kernel
theorem dX8_error_61 : decode cX8_error 61 = .ok (.iconst 1, 1) := by decide +kernel
theorem dX8_error_62 : decode cX8_error 62 = .ok (.if_icmp .ne 14, 3) := by decide +kernel
theorem dX8_error_65 : decode cX8_error 65 = .ok (.aload_n 0, 1) := by decide +kernel
theorem dX8_error_66 : decode cX8_error 66 = .ok (.getfield 37, 3) := by decide +kernel
theorem dX8_error_69 : decode cX8_error 69 = .ok (.iload_n 1, 1) := by decide +kernel
theorem dX8_error_70 : decode cX8_error 70 = .ok (.invokevirtual 248, 3) := by decide +kernel
theorem dX8_error_73 : decode cX8_error 73 = .ok (.goto 11, 3) := by decide +kernel
theorem dX8_error_76 : decode cX8_error 76 = .ok (.aload_n 0, 1) := by decide +kernel
theorem dX8_error_77 : decode cX8_error 77 = .ok (.getfield 37, 3) := by decide +kernel
theorem dX8_error_80 : decode cX8_error 80 = .ok (.iload_n 1, 1) := by decide +kernel
theorem dX8_error_81 : decode cX8_error 81 = .ok (.invokevirtual 251, 3) := by decide +kernel
theorem dX8_error_84 : decode cX8_error 84 = .ok (.ireturn, 1) := by decide +kernel
set_option maxRecDepth 20000 in
theorem ggX8_right_X8_products : GoodIn wsX8_right wsX8_products := goodIn_r _ [6, 7, 8, 9, 10, 11, 12, 13, 14, 15, 16, 17, 18, 19, 20, 21, 22, 23, 24, 25, 26, 27, 5, 28, 351, 352, 353, 354, 355, 356, 357, 358, 359] (by decide +kernel) (by decide +kernel)
set_option maxRecDepth 20000 in
theorem gX8_right_X8_products : GoodIn wsX8_right (wsV RX8 210 RX8 yX8_products wsX8_products) := goodIn_app (goodIn_of _ (by decide +kernel)) ggX8_right_X8_products
set_option maxRecDepth 20000 in
theorem ggX8_right_X2_inspect : GoodIn wsX8_right wsX2_inspect := goodIn_r _ [33, 34, 35, 36, 37, 38, 24, 39, 26, 27, 5, 28, 40, 41, 42, 43, 44, 45, 46, 47, 48, 49, 50, 51, 52, 53, 54, 55, 56, 57, 58, 59, 60, 61, 62, 63, 64, 65, 66, 67, 68, 69, 70, 71, 72, 73, 74, 75, 76, 77, 78, 79, 80, 81, 82, 83, 84, 85, 86, 87, 88, 89, 90, 22, 23, 25, 91, 92, 93, 94, 95, 96, 97, 98, 99, 100, 101, 102, 103, 104, 105, 106, 107, 108, 109, 110, 111, 112, 113, 114, 115, 116, 117, 118, 119, 120, 121, 122, 123, 124, 125, 126, 127, 128, 129, 130, 131, 132, 133, 134, 135, 136, 137, 138, 139, 140, 141, 142, 143, 144, 145, 146, 147, 148, 149, 150, 151, 152, 153, 154, 155, 156, 157, 158, 159, 160, 161, 162, 163, 164, 165, 166, 167, 168, 169, 170, 171, 172, 173, 174, 175, 176, 177, 178, 179, 180, 181, 182, 183, 184, 185, 186, 187, 188, 189, 190, 191, 192, 193, 194, 195, 196, 197, 198, 199, 200, 201, 202, 203, 204, 205, 206, 207, 208, 209, 210, 211, 212, 213, 214, 215, 216, 217, 218, 219, 220, 221, 222, 223, 224, 225, 226, 227, 228, 229, 230, 231, 232, 233, 234, 235, 236, 237, 238, 239, 240, 241, 242, 243, 244, 245, 246, 247, 248, 249, 250, 32, 251, 252, 253, 254, 255, 256, 257, 258, 259, 260, 261, 262, 263, 264, 265, 266, 267, 268, 269, 270, 271, 272, 273, 274, 275, 276, 277, 278, 279, 280, 281, 282, 283, 284, 285, 286, 287, 288, 289, 290, 291, 292, 293, 294, 295, 296, 297, 298, 299, 300, 301, 302, 303, 304, 305, 306, 307, 308, 309, 310, 311, 312, 313, 314, 315, 316, 317, 318, 319, 320, 321, 322, 323, 324, 325, 326, 327, 328, 329, 330, 331, 332, 333, 334, 335, 336, 337, 338, 339, 340, 341, 342, 360, 361, 362, 363, 364, 359, 365, 366, 367, 368, 369, 370, 371, 372, 373, 374, 375, 376, 377, 378, 379, 380, 381, 382, 383, 384, 385, 386, 387, 388, 389, 390, 391, 392, 393, 394, 395, 396, 397, 398] (by decide +kernel) (by decide +kernel)
set_option maxRecDepth 20000 in
theorem gX8_right_X2_inspect : GoodIn wsX8_right (wsV RX8 239 RX2 yX2_inspect wsX2_inspect) := goodIn_app (goodIn_of _ (by decide +kernel)) ggX8_right_X2_inspect
set_option maxRecDepth 20000 in
theorem ggX8_right_X2_wrongProducts : GoodIn wsX8_right wsX2_wrongProducts := goodIn_r _ [346, 341, 347, 348, 349, 32, 350, 34, 342, 263, 22, 23, 24, 25, 26, 360, 361, 362, 363, 364, 359] (by decide +kernel) (by decide +kernel)
set_option maxRecDepth 20000 in
theorem gX8_right_X2_wrongProducts : GoodIn wsX8_right (wsV RX8 254 RX2 yX2_wrongProducts wsX2_wrongProducts) := goodIn_app (goodIn_of _ (by decide +kernel)) ggX8_right_X2_wrongProducts
theorem dX8_right_0 : decode cX8_right 0 = .ok (.aload_n 0, 1) := by decide +kernel
theorem dX8_right_1 : decode cX8_right 1 = .ok (.invokevirtual 210, 3) := by decide +kernel
theorem dX8_right_4 : decode cX8_right 4 = .ok (.istore_n 1, 1) := by decide +kernel
theorem dX8_right_5 : decode cX8_right 5 = .ok (.aload_n 0, 1) := by decide +kernel
theorem dX8_right_6 : decode cX8_right 6 = .ok (.getfield 37, 3) := by decide +kernel
theorem dX8_right_9 : decode cX8_right 9 = .ok (.iload_n 1, 1) := by decide +kernel
theorem dX8_right_10 : decode cX8_right 10 = .ok (.invokevirtual 239, 3) := by decide +kernel
theorem dX8_right_13 : decode cX8_right 13 = .ok (.iload_n 1, 1) := by decide +kernel
theorem dX8_right_14 : decode cX8_right 14 = .ok (.aload_n 0, 1) := by decide +kernel
theorem dX8_right_15 : decode cX8_right 15 = .ok (.getfield 37, 3) := by decide +kernel
theorem dX8_right_18 : decode cX8_right 18 = .ok (.invokevirtual 254, 3) := by decide +kernel
theorem dX8_right_21 : decode cX8_right 21 = .ok (.iconst (-1), 1) := by decide +kernel
theorem dX8_right_22 : decode cX8_right 22 = .ok (.ixor, 1) := by decide +kernel
theorem dX8_right_23 : decode cX8_right 23 = .ok (.iand, 1) := by decide +kernel
theorem dX8_right_24 : decode cX8_right 24 = .ok (.ireturn, 1) := by decide +kernel
set_option maxRecDepth 20000 in
theorem ggX8_errorsIn_X8_isProduct : GoodIn wsX8_errorsIn wsX8_isProduct := goodIn_r _ [8, 9, 10, 11, 12, 13, 14, 15, 16, 17, 18, 19, 20, 21, 22, 23, 24, 25, 26, 27, 28, 29, 7, 30, 31, 358, 359, 360, 361, 362, 363, 364, 365, 366] (by decide +kernel) (by decide +kernel)
set_option maxRecDepth 20000 in
theorem gX8_errorsIn_X8_isProduct : GoodIn wsX8_errorsIn (wsV RX8 213 RX8 yX8_isProduct wsX8_isProduct) := goodIn_app (goodIn_of _ (by decide +kernel)) ggX8_errorsIn_X8_isProduct
set_option maxRecDepth 20000 in
theorem ggX8_errorsIn_X8_products : GoodIn wsX8_errorsIn wsX8_products := goodIn_r _ [35, 9, 10, 11, 12, 13, 14, 15, 16, 17, 18, 19, 20, 21, 22, 23, 24, 25, 26, 27, 28, 29, 7, 30, 358, 359, 360, 361, 362, 363, 364, 365, 366] (by decide +kernel) (by decide +kernel)
set_option maxRecDepth 20000 in
theorem gX8_errorsIn_X8_products : GoodIn wsX8_errorsIn (wsV RX8 210 RX8 yX8_products wsX8_products) := goodIn_app (goodIn_of _ (by decide +kernel)) ggX8_errorsIn_X8_products
set_option maxRecDepth 20000 in
theorem ggX8_errorsIn_X2_inspect : GoodIn wsX8_errorsIn wsX2_inspect := goodIn_r _ [40, 41, 42, 43, 44, 45, 26, 46, 28, 29, 7, 30, 47, 48, 49, 50, 51, 52, 53, 54, 55, 56, 57, 58, 59, 60, 61, 62, 63, 64, 65, 66, 67, 68, 69, 70, 71, 72, 73, 74, 75, 76, 77, 78, 79, 80, 81, 82, 83, 84, 85, 86, 87, 88, 89, 90, 91, 92, 93, 94, 95, 96, 97, 24, 25, 27, 98, 99, 100, 101, 102, 103, 104, 105, 106, 107, 108, 109, 110, 111, 112, 113, 114, 115, 116, 117, 118, 119, 120, 121, 122, 123, 124, 125, 126, 127, 128, 129, 130, 131, 132, 133, 134, 135, 136, 137, 138, 139, 140, 141, 142, 143, 144, 145, 146, 147, 148, 149, 150, 151, 152, 153, 154, 155, 156, 157, 158, 159, 160, 161, 162, 163, 164, 165, 166, 167, 168, 169, 170, 171, 172, 173, 174, 175, 176, 177, 178, 179, 180, 181, 182, 183, 184, 185, 186, 187, 188, 189, 190, 191, 192, 193, 194, 195, 196, 197, 198, 199, 200, 201, 202, 203, 204, 205, 206, 207, 208, 209, 210, 211, 212, 213, 214, 215, 216, 217, 218, 219, 220, 221, 222, 223, 224, 225, 226, 227, 228, 229, 230, 231, 232, 233, 234, 235, 236, 237, 238, 239, 240, 241, 242, 243, 244, 245, 246, 247, 248, 249, 250, 251, 252, 253, 254, 255, 256, 257, 39, 258, 259, 260, 261, 262, 263, 264, 265, 266, 267, 268, 269, 270, 271, 272, 273, 274, 275, 276, 277, 278, 279, 280, 281, 282, 283, 284, 285, 286, 287, 288, 289, 290, 291, 292, 293, 294, 295, 296, 297, 298, 299, 300, 301, 302, 303, 304, 305, 306, 307, 308, 309, 310, 311, 312, 313, 314, 315, 316, 317, 318, 319, 320, 321, 322, 323, 324, 325, 326, 327, 328, 329, 330, 331, 332, 333, 334, 335, 336, 337, 338, 339, 340, 341, 342, 343, 344, 345, 346, 347, 348, 349, 367, 368, 369, 370, 371, 366, 372, 373, 374, 375, 376, 377, 378, 379, 380, 381, 382, 383, 384, 385, 386, 387, 388, 389, 390, 391, 392, 393, 394, 395, 396, 397, 398, 399, 400, 401, 402, 403, 404, 405] (by decide +kernel) (by decide +kernel)
set_option maxRecDepth 20000 in
theorem gX8_errorsIn_X2_inspect : GoodIn wsX8_errorsIn (wsV RX8 239 RX2 yX2_inspect wsX2_inspect) := goodIn_app (goodIn_of _ (by decide +kernel)) ggX8_errorsIn_X2_inspect
set_option maxRecDepth 20000 in
theorem ggX8_errorsIn_X2_sizeIn : GoodIn wsX8_errorsIn wsX2_sizeIn := goodIn_r _ [353, 348, 354, 355, 356, 39, 357, 41, 349, 270, 24, 25, 26, 27, 28, 29, 7, 30, 367, 368, 369, 370, 371, 366] (by decide +kernel) (by decide +kernel)
set_option maxRecDepth 20000 in
theorem gX8_errorsIn_X2_sizeIn : GoodIn wsX8_errorsIn (wsV RX8 257 RX2 yX2_sizeIn wsX2_sizeIn) := goodIn_app (goodIn_of _ (by decide +kernel)) ggX8_errorsIn_X2_sizeIn
theorem dX8_errorsIn_0 : decode cX8_errorsIn 0 = .ok (.aload_n 0, 1) := by decide +kernel
theorem dX8_errorsIn_1 : decode cX8_errorsIn 1 = .ok (.iload_n 1, 1) := by decide +kernel
theorem dX8_errorsIn_2 : decode cX8_errorsIn 2 = .ok (.invokevirtual 213, 3) := by decide +kernel
theorem dX8_errorsIn_5 : decode cX8_errorsIn 5 = .ok (.ifCond .ne 13, 3) := by decide +kernel
theorem dX8_errorsIn_8 : decode cX8_errorsIn 8 = .ok (.new 45, 3) := by decide +kernel
theorem dX8_errorsIn_11 : decode cX8_errorsIn 11 = .ok (.dup, 1) := by decide +kernel
theorem dX8_errorsIn_12 : decode cX8_errorsIn 12 = .ok (.ldc 216, 2) := by decide +kernel
theorem dX8_errorsIn_14 : decode cX8_errorsIn 14 = .ok (.invokespecial 49, 3) := by decide +kernel
theorem dX8_errorsIn_17 : decode cX8_errorsIn 17 = .ok (.athrow, 1) := by decide +kernel
theorem dX8_errorsIn_18 : decode cX8_errorsIn 18 = .ok (.aload_n 0, 1) := by decide +kernel
theorem dX8_errorsIn_19 : decode cX8_errorsIn 19 = .ok (.getfield 37, 3) := by decide +kernel
theorem dX8_errorsIn_22 : decode cX8_errorsIn 22 = .ok (.aload_n 0, 1) := by decide +kernel
theorem dX8_errorsIn_23 : decode cX8_errorsIn 23 = .ok (.invokevirtual 210, 3) := by decide +kernel
theorem dX8_errorsIn_26 : decode cX8_errorsIn 26 = .ok (.invokevirtual 239, 3) := by decide +kernel
theorem dX8_errorsIn_29 : decode cX8_errorsIn 29 = .ok (.aload_n 0, 1) := by decide +kernel
theorem dX8_errorsIn_30 : decode cX8_errorsIn 30 = .ok (.getfield 37, 3) := by decide +kernel
theorem dX8_errorsIn_33 : decode cX8_errorsIn 33 = .ok (.iload_n 1, 1) := by decide +kernel
theorem dX8_errorsIn_34 : decode cX8_errorsIn 34 = .ok (.invokevirtual 257, 3) := by decide +kernel
theorem dX8_errorsIn_37 : decode cX8_errorsIn 37 = .ok (.ireturn, 1) := by decide +kernel
set_option maxRecDepth 20000 in
theorem ggX8_culprit_X8_products : GoodIn wsX8_culprit wsX8_products := goodIn_r _ [6, 7, 8, 9, 10, 11, 12, 13, 14, 15, 16, 17, 18, 19, 20, 21, 22, 23, 24, 25, 26, 27, 5, 28, 361, 362, 363, 364, 365, 366, 367, 368, 369] (by decide +kernel) (by decide +kernel)
set_option maxRecDepth 20000 in
theorem gX8_culprit_X8_products : GoodIn wsX8_culprit (wsV RX8 210 RX8 yX8_products wsX8_products) := goodIn_app (goodIn_of _ (by decide +kernel)) ggX8_culprit_X8_products
set_option maxRecDepth 20000 in
theorem ggX8_culprit_X2_inspect : GoodIn wsX8_culprit wsX2_inspect := goodIn_r _ [33, 34, 35, 36, 37, 38, 24, 39, 26, 27, 5, 28, 40, 41, 42, 43, 44, 45, 46, 47, 48, 49, 50, 51, 52, 53, 54, 55, 56, 57, 58, 59, 60, 61, 62, 63, 64, 65, 66, 67, 68, 69, 70, 71, 72, 73, 74, 75, 76, 77, 78, 79, 80, 81, 82, 83, 84, 85, 86, 87, 88, 89, 90, 22, 23, 25, 91, 92, 93, 94, 95, 96, 97, 98, 99, 100, 101, 102, 103, 104, 105, 106, 107, 108, 109, 110, 111, 112, 113, 114, 115, 116, 117, 118, 119, 120, 121, 122, 123, 124, 125, 126, 127, 128, 129, 130, 131, 132, 133, 134, 135, 136, 137, 138, 139, 140, 141, 142, 143, 144, 145, 146, 147, 148, 149, 150, 151, 152, 153, 154, 155, 156, 157, 158, 159, 160, 161, 162, 163, 164, 165, 166, 167, 168, 169, 170, 171, 172, 173, 174, 175, 176, 177, 178, 179, 180, 181, 182, 183, 184, 185, 186, 187, 188, 189, 190, 191, 192, 193, 194, 195, 196, 197, 198, 199, 200, 201, 202, 203, 204, 205, 206, 207, 208, 209, 210, 211, 212, 213, 214, 215, 216, 217, 218, 219, 220, 221, 222, 223, 224, 225, 226, 227, 228, 229, 230, 231, 232, 233, 234, 235, 236, 237, 238, 239, 240, 241, 242, 243, 244, 245, 246, 247, 248, 249, 250, 32, 251, 252, 253, 254, 255, 256, 257, 258, 259, 260, 261, 262, 263, 264, 265, 266, 267, 268, 269, 270, 271, 272, 273, 274, 275, 276, 277, 278, 279, 280, 281, 282, 283, 284, 285, 286, 287, 288, 289, 290, 291, 292, 293, 294, 295, 296, 297, 298, 299, 300, 301, 302, 303, 304, 305, 306, 307, 308, 309, 310, 311, 312, 313, 314, 315, 316, 317, 318, 319, 320, 321, 322, 323, 324, 325, 326, 327, 328, 329, 330, 331, 332, 333, 334, 335, 336, 337, 338, 339, 340, 341, 342, 370, 371, 372, 373, 374, 369, 375, 376, 377, 378, 379, 380, 381, 382, 383, 384, 385, 386, 387, 388, 389, 390, 391, 392, 393, 394, 395, 396, 397, 398, 399, 400, 401, 402, 403, 404, 405, 406, 407, 408] (by decide +kernel) (by decide +kernel)
set_option maxRecDepth 20000 in
theorem gX8_culprit_X2_inspect : GoodIn wsX8_culprit (wsV RX8 239 RX2 yX2_inspect wsX2_inspect) := goodIn_app (goodIn_of _ (by decide +kernel)) ggX8_culprit_X2_inspect
set_option maxRecDepth 20000 in
theorem ggX8_culprit_X2_wrongProducts : GoodIn wsX8_culprit wsX2_wrongProducts := goodIn_r _ [346, 341, 347, 348, 349, 32, 350, 34, 342, 263, 22, 23, 24, 25, 26, 370, 371, 372, 373, 374, 369] (by decide +kernel) (by decide +kernel)
set_option maxRecDepth 20000 in
theorem gX8_culprit_X2_wrongProducts : GoodIn wsX8_culprit (wsV RX8 254 RX2 yX2_wrongProducts wsX2_wrongProducts) := goodIn_app (goodIn_of _ (by decide +kernel)) ggX8_culprit_X2_wrongProducts
set_option maxRecDepth 20000 in
theorem ggX8_culprit_X8_configurationsWith : GoodIn wsX8_culprit wsX8_configurationsWith := goodIn_r _ [353] (by decide +kernel) (by decide +kernel)
set_option maxRecDepth 20000 in
theorem gX8_culprit_X8_configurationsWith : GoodIn wsX8_culprit (va_wsS RX8 260 yX8_configurationsWith wsX8_configurationsWith) := goodIn_app (goodIn_of _ (by decide +kernel)) ggX8_culprit_X8_configurationsWith
set_option maxRecDepth 20000 in
theorem ggX8_culprit_J6_bitCount_0f7a4 : GoodIn wsX8_culprit wsJ6_bitCount_0f7a4 := goodIn_r _ [357, 358, 359, 360] (by decide +kernel) (by decide +kernel)
set_option maxRecDepth 20000 in
theorem gX8_culprit_J6_bitCount_0f7a4 : GoodIn wsX8_culprit (va_wsS RX8 263 yJ6_bitCount_0f7a4 wsJ6_bitCount_0f7a4) := goodIn_app (goodIn_of _ (by decide +kernel)) ggX8_culprit_J6_bitCount_0f7a4
theorem dX8_culprit_0 : decode cX8_culprit 0 = .ok (.aload_n 0, 1) := by decide +kernel
theorem dX8_culprit_1 : decode cX8_culprit 1 = .ok (.invokevirtual 210, 3) := by decide +kernel
theorem dX8_culprit_4 : decode cX8_culprit 4 = .ok (.istore_n 1, 1) := by decide +kernel
theorem dX8_culprit_5 : decode cX8_culprit 5 = .ok (.aload_n 0, 1) := by decide +kernel
theorem dX8_culprit_6 : decode cX8_culprit 6 = .ok (.getfield 37, 3) := by decide +kernel
theorem dX8_culprit_9 : decode cX8_culprit 9 = .ok (.iload_n 1, 1) := by decide +kernel
theorem dX8_culprit_10 : decode cX8_culprit 10 = .ok (.invokevirtual 239, 3) := by decide +kernel
theorem dX8_culprit_13 : decode cX8_culprit 13 = .ok (.iload_n 1, 1) := by decide +kernel
theorem dX8_culprit_14 : decode cX8_culprit 14 = .ok (.aload_n 0, 1) := by decide +kernel
theorem dX8_culprit_15 : decode cX8_culprit 15 = .ok (.getfield 37, 3) := by decide +kernel
theorem dX8_culprit_18 : decode cX8_culprit 18 = .ok (.invokevirtual 254, 3) := by decide +kernel
theorem dX8_culprit_21 : decode cX8_culprit 21 = .ok (.iconst (-1), 1) := by decide +kernel
theorem dX8_culprit_22 : decode cX8_culprit 22 = .ok (.ixor, 1) := by decide +kernel
theorem dX8_culprit_23 : decode cX8_culprit 23 = .ok (.iand, 1) := by decide +kernel
theorem dX8_culprit_24 : decode cX8_culprit 24 = .ok (.istore_n 2, 1) := by decide +kernel
theorem dX8_culprit_25 : decode cX8_culprit 25 = .ok (.iconst (-1), 1) := by decide +kernel
theorem dX8_culprit_26 : decode cX8_culprit 26 = .ok (.istore_n 3, 1) := by decide +kernel
theorem dX8_culprit_27 : decode cX8_culprit 27 = .ok (.bipush 9, 2) := by decide +kernel
theorem dX8_culprit_29 : decode cX8_culprit 29 = .ok (.istore 4, 2) := by decide +kernel
theorem dX8_culprit_31 : decode cX8_culprit 31 = .ok (.iconst 0, 1) := by decide +kernel
theorem dX8_culprit_32 : decode cX8_culprit 32 = .ok (.istore 5, 2) := by decide +kernel
theorem dX8_culprit_34 : decode cX8_culprit 34 = .ok (.iload 5, 2) := by decide +kernel
theorem dX8_culprit_36 : decode cX8_culprit 36 = .ok (.bipush 16, 2) := by decide +kernel
theorem dX8_culprit_38 : decode cX8_culprit 38 = .ok (.if_icmp .ge 81, 3) := by decide +kernel
theorem dX8_culprit_41 : decode cX8_culprit 41 = .ok (.iconst 0, 1) := by decide +kernel
theorem dX8_culprit_42 : decode cX8_culprit 42 = .ok (.istore 6, 2) := by decide +kernel
theorem dX8_culprit_44 : decode cX8_culprit 44 = .ok (.iload 6, 2) := by decide +kernel
theorem dX8_culprit_46 : decode cX8_culprit 46 = .ok (.bipush 16, 2) := by decide +kernel
theorem dX8_culprit_48 : decode cX8_culprit 48 = .ok (.if_icmp .ge 65, 3) := by decide +kernel
theorem dX8_culprit_51 : decode cX8_culprit 51 = .ok (.iload 5, 2) := by decide +kernel
theorem dX8_culprit_53 : decode cX8_culprit 53 = .ok (.iload 6, 2) := by decide +kernel
theorem dX8_culprit_55 : decode cX8_culprit 55 = .ok (.invokestatic 260, 3) := by decide +kernel
theorem dX8_culprit_58 : decode cX8_culprit 58 = .ok (.iload_n 1, 1) := by decide +kernel
theorem dX8_culprit_59 : decode cX8_culprit 59 = .ok (.iand, 1) := by decide +kernel
theorem dX8_culprit_60 : decode cX8_culprit 60 = .ok (.istore 7, 2) := by decide +kernel
theorem dX8_culprit_62 : decode cX8_culprit 62 = .ok (.iload 5, 2) := by decide +kernel
theorem dX8_culprit_64 : decode cX8_culprit 64 = .ok (.invokestatic 263, 3) := by decide +kernel
theorem dX8_culprit_67 : decode cX8_culprit 67 = .ok (.iload 6, 2) := by decide +kernel
theorem dX8_culprit_69 : decode cX8_culprit 69 = .ok (.invokestatic 263, 3) := by decide +kernel
theorem dX8_culprit_72 : decode cX8_culprit 72 = .ok (.iadd, 1) := by decide +kernel
theorem dX8_culprit_73 : decode cX8_culprit 73 = .ok (.istore 8, 2) := by decide +kernel
theorem dX8_culprit_75 : decode cX8_culprit 75 = .ok (.iload 7, 2) := by decide +kernel
theorem dX8_culprit_77 : decode cX8_culprit 77 = .ok (.ifCond .eq 30, 3) := by decide +kernel
theorem dX8_culprit_80 : decode cX8_culprit 80 = .ok (.iload 7, 2) := by decide +kernel
theorem dX8_culprit_82 : decode cX8_culprit 82 = .ok (.iload_n 2, 1) := by decide +kernel
theorem dX8_culprit_83 : decode cX8_culprit 83 = .ok (.iand, 1) := by decide +kernel
theorem dX8_culprit_84 : decode cX8_culprit 84 = .ok (.ifCond .ne 23, 3) := by decide +kernel
theorem dX8_culprit_87 : decode cX8_culprit 87 = .ok (.iload 8, 2) := by decide +kernel
theorem dX8_culprit_89 : decode cX8_culprit 89 = .ok (.iload 4, 2) := by decide +kernel
theorem dX8_culprit_91 : decode cX8_culprit 91 = .ok (.if_icmp .ge 16, 3) := by decide +kernel
theorem dX8_culprit_94 : decode cX8_culprit 94 = .ok (.bipush 16, 2) := by decide +kernel
theorem dX8_culprit_96 : decode cX8_culprit 96 = .ok (.iload 5, 2) := by decide +kernel
theorem dX8_culprit_98 : decode cX8_culprit 98 = .ok (.imul, 1) := by decide +kernel
theorem dX8_culprit_99 : decode cX8_culprit 99 = .ok (.iload 6, 2) := by decide +kernel
theorem dX8_culprit_101 : decode cX8_culprit 101 = .ok (.iadd, 1) := by decide +kernel
theorem dX8_culprit_102 : decode cX8_culprit 102 = .ok (.istore_n 3, 1) := by decide +kernel
theorem dX8_culprit_103 : decode cX8_culprit 103 = .ok (.iload 8, 2) := by decide +kernel
theorem dX8_culprit_105 : decode cX8_culprit 105 = .ok (.istore 4, 2) := by decide +kernel
theorem dX8_culprit_107 : decode cX8_culprit 107 = .ok (.iinc 6 1, 3) := by decide +kernel
theorem dX8_culprit_110 : decode cX8_culprit 110 = .ok (.goto (-66), 3) := by decide +kernel
theorem dX8_culprit_113 : decode cX8_culprit 113 = .ok (.iinc 5 1, 3) := by decide +kernel
theorem dX8_culprit_116 : decode cX8_culprit 116 = .ok (.goto (-82), 3) := by decide +kernel
theorem dX8_culprit_119 : decode cX8_culprit 119 = .ok (.iload_n 3, 1) := by decide +kernel
theorem dX8_culprit_120 : decode cX8_culprit 120 = .ok (.ireturn, 1) := by decide +kernel
set_option maxRecDepth 20000 in
theorem ggX8_share_X8_products : GoodIn wsX8_share wsX8_products := goodIn_r _ [6, 7, 8, 9, 10, 11, 12, 13, 14, 15, 16, 17, 18, 19, 20, 21, 22, 23, 24, 25, 26, 27, 5, 28, 358, 359, 360, 361, 362, 363, 364, 365, 366] (by decide +kernel) (by decide +kernel)
set_option maxRecDepth 20000 in
theorem gX8_share_X8_products : GoodIn wsX8_share (wsV RX8 210 RX8 yX8_products wsX8_products) := goodIn_app (goodIn_of _ (by decide +kernel)) ggX8_share_X8_products
set_option maxRecDepth 20000 in
theorem ggX8_share_X2_inspect : GoodIn wsX8_share wsX2_inspect := goodIn_r _ [33, 34, 35, 36, 37, 38, 24, 39, 26, 27, 5, 28, 40, 41, 42, 43, 44, 45, 46, 47, 48, 49, 50, 51, 52, 53, 54, 55, 56, 57, 58, 59, 60, 61, 62, 63, 64, 65, 66, 67, 68, 69, 70, 71, 72, 73, 74, 75, 76, 77, 78, 79, 80, 81, 82, 83, 84, 85, 86, 87, 88, 89, 90, 22, 23, 25, 91, 92, 93, 94, 95, 96, 97, 98, 99, 100, 101, 102, 103, 104, 105, 106, 107, 108, 109, 110, 111, 112, 113, 114, 115, 116, 117, 118, 119, 120, 121, 122, 123, 124, 125, 126, 127, 128, 129, 130, 131, 132, 133, 134, 135, 136, 137, 138, 139, 140, 141, 142, 143, 144, 145, 146, 147, 148, 149, 150, 151, 152, 153, 154, 155, 156, 157, 158, 159, 160, 161, 162, 163, 164, 165, 166, 167, 168, 169, 170, 171, 172, 173, 174, 175, 176, 177, 178, 179, 180, 181, 182, 183, 184, 185, 186, 187, 188, 189, 190, 191, 192, 193, 194, 195, 196, 197, 198, 199, 200, 201, 202, 203, 204, 205, 206, 207, 208, 209, 210, 211, 212, 213, 214, 215, 216, 217, 218, 219, 220, 221, 222, 223, 224, 225, 226, 227, 228, 229, 230, 231, 232, 233, 234, 235, 236, 237, 238, 239, 240, 241, 242, 243, 244, 245, 246, 247, 248, 249, 250, 32, 251, 252, 253, 254, 255, 256, 257, 258, 259, 260, 261, 262, 263, 264, 265, 266, 267, 268, 269, 270, 271, 272, 273, 274, 275, 276, 277, 278, 279, 280, 281, 282, 283, 284, 285, 286, 287, 288, 289, 290, 291, 292, 293, 294, 295, 296, 297, 298, 299, 300, 301, 302, 303, 304, 305, 306, 307, 308, 309, 310, 311, 312, 313, 314, 315, 316, 317, 318, 319, 320, 321, 322, 323, 324, 325, 326, 327, 328, 329, 330, 331, 332, 333, 334, 335, 336, 337, 338, 339, 340, 341, 342, 367, 368, 369, 370, 371, 366, 372, 373, 374, 375, 376, 377, 378, 379, 380, 381, 382, 383, 384, 385, 386, 387, 388, 389, 390, 391, 392, 393, 394, 395, 396, 397, 398, 399, 400, 401, 402, 403, 404, 405] (by decide +kernel) (by decide +kernel)
set_option maxRecDepth 20000 in
theorem gX8_share_X2_inspect : GoodIn wsX8_share (wsV RX8 239 RX2 yX2_inspect wsX2_inspect) := goodIn_app (goodIn_of _ (by decide +kernel)) ggX8_share_X2_inspect
set_option maxRecDepth 20000 in
theorem ggX8_share_X2_wrongProducts : GoodIn wsX8_share wsX2_wrongProducts := goodIn_r _ [346, 341, 347, 348, 349, 32, 350, 34, 342, 263, 22, 23, 24, 25, 26, 367, 368, 369, 370, 371, 366] (by decide +kernel) (by decide +kernel)
set_option maxRecDepth 20000 in
theorem gX8_share_X2_wrongProducts : GoodIn wsX8_share (wsV RX8 254 RX2 yX2_wrongProducts wsX2_wrongProducts) := goodIn_app (goodIn_of _ (by decide +kernel)) ggX8_share_X2_wrongProducts
set_option maxRecDepth 20000 in
theorem ggX8_share_J6_bitCount_0f7a4 : GoodIn wsX8_share wsJ6_bitCount_0f7a4 := goodIn_r _ [354, 355, 356, 357] (by decide +kernel) (by decide +kernel)
set_option maxRecDepth 20000 in
theorem gX8_share_J6_bitCount_0f7a4 : GoodIn wsX8_share (va_wsS RX8 263 yJ6_bitCount_0f7a4 wsJ6_bitCount_0f7a4) := goodIn_app (goodIn_of _ (by decide +kernel)) ggX8_share_J6_bitCount_0f7a4
theorem dX8_share_0 : decode cX8_share 0 = .ok (.aload_n 0, 1) := by decide +kernel
theorem dX8_share_1 : decode cX8_share 1 = .ok (.invokevirtual 210, 3) := by decide +kernel
theorem dX8_share_4 : decode cX8_share 4 = .ok (.istore_n 1, 1) := by decide +kernel
theorem dX8_share_5 : decode cX8_share 5 = .ok (.aload_n 0, 1) := by decide +kernel
theorem dX8_share_6 : decode cX8_share 6 = .ok (.getfield 37, 3) := by decide +kernel
theorem dX8_share_9 : decode cX8_share 9 = .ok (.iload_n 1, 1) := by decide +kernel
theorem dX8_share_10 : decode cX8_share 10 = .ok (.invokevirtual 239, 3) := by decide +kernel
theorem dX8_share_13 : decode cX8_share 13 = .ok (.aload_n 0, 1) := by decide +kernel
theorem dX8_share_14 : decode cX8_share 14 = .ok (.getfield 37, 3) := by decide +kernel
theorem dX8_share_17 : decode cX8_share 17 = .ok (.invokevirtual 254, 3) := by decide +kernel
theorem dX8_share_20 : decode cX8_share 20 = .ok (.invokestatic 263, 3) := by decide +kernel
theorem dX8_share_23 : decode cX8_share 23 = .ok (.istore_n 2, 1) := by decide +kernel
theorem dX8_share_24 : decode cX8_share 24 = .ok (.iload_n 1, 1) := by decide +kernel
theorem dX8_share_25 : decode cX8_share 25 = .ok (.invokestatic 263, 3) := by decide +kernel
theorem dX8_share_28 : decode cX8_share 28 = .ok (.istore_n 3, 1) := by decide +kernel
theorem dX8_share_29 : decode cX8_share 29 = .ok (.iload_n 3, 1) := by decide +kernel
theorem dX8_share_30 : decode cX8_share 30 = .ok (.ifCond .ne 7, 3) := by decide +kernel
theorem dX8_share_33 : decode cX8_share 33 = .ok (.dconst 0, 1) := by decide +kernel
theorem dX8_share_34 : decode cX8_share 34 = .ok (.goto 10, 3) := by decide +kernel
theorem dX8_share_37 : decode cX8_share 37 = .ok (.iload_n 3, 1) := by decide +kernel
theorem dX8_share_38 : decode cX8_share 38 = .ok (.iload_n 2, 1) := by decide +kernel
theorem dX8_share_39 : decode cX8_share 39 = .ok (.isub, 1) := by decide +kernel
theorem dX8_share_40 : decode cX8_share 40 = .ok (.i2d, 1) := by decide +kernel
theorem dX8_share_41 : decode cX8_share 41 = .ok (.iload_n 3, 1) := by decide +kernel
theorem dX8_share_42 : decode cX8_share 42 = .ok (.i2d, 1) := by decide +kernel
theorem dX8_share_43 : decode cX8_share 43 = .ok (.ddiv, 1) := by decide +kernel
theorem dX8_share_44 : decode cX8_share 44 = .ok (.dreturn, 1) := by decide +kernel
set_option maxRecDepth 20000 in
theorem ggX8_digest_X8_products : GoodIn wsX8_digest wsX8_products := goodIn_r _ [8, 9, 10, 11, 12, 13, 14, 15, 16, 17, 18, 19, 20, 21, 22, 23, 24, 25, 26, 27, 28, 29, 7, 30, 380, 381, 382, 383, 384, 385, 386, 387, 388] (by decide +kernel) (by decide +kernel)
set_option maxRecDepth 20000 in
theorem gX8_digest_X8_products : GoodIn wsX8_digest (wsV RX8 210 RX8 yX8_products wsX8_products) := goodIn_app (goodIn_of _ (by decide +kernel)) ggX8_digest_X8_products
set_option maxRecDepth 20000 in
theorem ggX8_digest_X2_inspect : GoodIn wsX8_digest wsX2_inspect := goodIn_r _ [35, 36, 37, 38, 39, 40, 26, 41, 28, 29, 7, 30, 42, 43, 44, 45, 46, 47, 48, 49, 50, 51, 52, 53, 54, 55, 56, 57, 58, 59, 60, 61, 62, 63, 64, 65, 66, 67, 68, 69, 70, 71, 72, 73, 74, 75, 76, 77, 78, 79, 80, 81, 82, 83, 84, 85, 86, 87, 88, 89, 90, 91, 92, 24, 25, 27, 93, 94, 95, 96, 97, 98, 99, 100, 101, 102, 103, 104, 105, 106, 107, 108, 109, 110, 111, 112, 113, 114, 115, 116, 117, 118, 119, 120, 121, 122, 123, 124, 125, 126, 127, 128, 129, 130, 131, 132, 133, 134, 135, 136, 137, 138, 139, 140, 141, 142, 143, 144, 145, 146, 147, 148, 149, 150, 151, 152, 153, 154, 155, 156, 157, 158, 159, 160, 161, 162, 163, 164, 165, 166, 167, 168, 169, 170, 171, 172, 173, 174, 175, 176, 177, 178, 179, 180, 181, 182, 183, 184, 185, 186, 187, 188, 189, 190, 191, 192, 193, 194, 195, 196, 197, 198, 199, 200, 201, 202, 203, 204, 205, 206, 207, 208, 209, 210, 211, 212, 213, 214, 215, 216, 217, 218, 219, 220, 221, 222, 223, 224, 225, 226, 227, 228, 229, 230, 231, 232, 233, 234, 235, 236, 237, 238, 239, 240, 241, 242, 243, 244, 245, 246, 247, 248, 249, 250, 251, 252, 34, 253, 254, 255, 256, 257, 258, 259, 260, 261, 262, 263, 264, 265, 266, 267, 268, 269, 270, 271, 272, 273, 274, 275, 276, 277, 278, 279, 280, 281, 282, 283, 284, 285, 286, 287, 288, 289, 290, 291, 292, 293, 294, 295, 296, 297, 298, 299, 300, 301, 302, 303, 304, 305, 306, 307, 308, 309, 310, 311, 312, 313, 314, 315, 316, 317, 318, 319, 320, 321, 322, 323, 324, 325, 326, 327, 328, 329, 330, 331, 332, 333, 334, 335, 336, 337, 338, 339, 340, 341, 342, 343, 344, 389, 390, 391, 392, 393, 388, 394, 395, 396, 397, 398, 399, 400, 401, 402, 403, 404, 405, 406, 407, 408, 409, 410, 411, 412, 413, 414, 415, 416, 417, 418, 419, 420, 421, 422, 423, 424, 425, 426, 427] (by decide +kernel) (by decide +kernel)
set_option maxRecDepth 20000 in
theorem gX8_digest_X2_inspect : GoodIn wsX8_digest (wsV RX8 239 RX2 yX2_inspect wsX2_inspect) := goodIn_app (goodIn_of _ (by decide +kernel)) ggX8_digest_X2_inspect
set_option maxRecDepth 20000 in
theorem ggX8_digest_X8_mix : GoodIn wsX8_digest wsX8_mix := goodIn_r _ [347, 348] (by decide +kernel) (by decide +kernel)
set_option maxRecDepth 20000 in
theorem gX8_digest_X8_mix : GoodIn wsX8_digest (va_wsS RX8 270 yX8_mix wsX8_mix) := goodIn_app (goodIn_of _ (by decide +kernel)) ggX8_digest_X8_mix
set_option maxRecDepth 20000 in
theorem ggX8_digest_X4_size : GoodIn wsX8_digest wsX4_size := goodIn_r _ [58, 59, 60, 61, 62, 63, 64, 65, 66, 67, 68, 57, 69, 70, 71, 72, 73, 74, 75, 76, 77, 78, 79, 80, 402, 403, 404, 405, 406, 407, 408, 409, 410, 411, 412, 413, 414, 415, 416, 417, 418, 419, 420, 421, 422, 423, 424, 425, 426, 427] (by decide +kernel) (by decide +kernel)
set_option maxRecDepth 20000 in
theorem gX8_digest_X4_size : GoodIn wsX8_digest (wsV RX8 205 RX4 yX4_size wsX4_size) := goodIn_app (goodIn_of _ (by decide +kernel)) ggX8_digest_X4_size
set_option maxRecDepth 20000 in
theorem ggX8_digest_X8_mixPresences : GoodIn wsX8_digest wsX8_mixPresences := goodIn_r _ [353, 3, 349, 55, 56, 57, 58, 59, 60, 61, 62, 63, 64, 65, 66, 67, 68, 69, 70, 71, 72, 73, 74, 75, 76, 77, 78, 79, 80, 354, 82, 83, 84, 85, 86, 87, 88, 89, 90, 91, 92, 24, 25, 26, 27, 28, 93, 94, 95, 96, 97, 98, 99, 100, 101, 102, 103, 104, 105, 106, 107, 108, 109, 110, 111, 345, 346, 7, 347, 348, 380, 381, 382, 383, 402, 403, 404, 405, 406, 407, 408, 409, 410, 411, 412, 413, 414, 415, 416, 417, 418, 419, 420, 421, 422, 423, 424, 425, 426, 427, 388] (by decide +kernel) (by decide +kernel)
set_option maxRecDepth 20000 in
theorem gX8_digest_X8_mixPresences : GoodIn wsX8_digest (wsV RX8 274 RX8 yX8_mixPresences wsX8_mixPresences) := goodIn_app (goodIn_of _ (by decide +kernel)) ggX8_digest_X8_mixPresences
set_option maxRecDepth 20000 in
theorem ggX8_digest_X2_size : GoodIn wsX8_digest wsX2_size := goodIn_r _ [358, 343, 389, 390, 391, 392, 393] (by decide +kernel) (by decide +kernel)
set_option maxRecDepth 20000 in
theorem gX8_digest_X2_size : GoodIn wsX8_digest (wsV RX8 242 RX2 yX2_size wsX2_size) := goodIn_app (goodIn_of _ (by decide +kernel)) ggX8_digest_X2_size
set_option maxRecDepth 20000 in
theorem ggX8_digest_X2_kindOf : GoodIn wsX8_digest wsX2_kindOf := goodIn_r _ [362, 344, 265, 24, 25, 26, 27, 28, 389, 390, 391, 392, 393, 388] (by decide +kernel) (by decide +kernel)
set_option maxRecDepth 20000 in
theorem gX8_digest_X2_kindOf : GoodIn wsX8_digest (wsV RX8 245 RX2 yX2_kindOf wsX2_kindOf) := goodIn_app (goodIn_of _ (by decide +kernel)) ggX8_digest_X2_kindOf
set_option maxRecDepth 20000 in
theorem ggX8_digest_X2_elementOf : GoodIn wsX8_digest wsX2_elementOf := goodIn_r _ [366, 344, 265, 24, 25, 26, 27, 28, 389, 390, 391, 392, 393, 388] (by decide +kernel) (by decide +kernel)
set_option maxRecDepth 20000 in
theorem gX8_digest_X2_elementOf : GoodIn wsX8_digest (wsV RX8 248 RX2 yX2_elementOf wsX2_elementOf) := goodIn_app (goodIn_of _ (by decide +kernel)) ggX8_digest_X2_elementOf
set_option maxRecDepth 20000 in
theorem ggX8_digest_X2_productsOf : GoodIn wsX8_digest wsX2_productsOf := goodIn_r _ [370, 36, 344, 265, 24, 25, 26, 27, 28, 389, 390, 391, 392, 393, 388] (by decide +kernel) (by decide +kernel)
set_option maxRecDepth 20000 in
theorem gX8_digest_X2_productsOf : GoodIn wsX8_digest (wsV RX8 251 RX2 yX2_productsOf wsX2_productsOf) := goodIn_app (goodIn_of _ (by decide +kernel)) ggX8_digest_X2_productsOf
set_option maxRecDepth 20000 in
theorem ggX8_digest_X8_mixTypes : GoodIn wsX8_digest wsX8_mixTypes := goodIn_r _ [374, 3, 375, 376, 377, 61, 62, 63, 64, 65, 378, 29, 7, 30, 379, 335, 336, 45, 337, 168, 188, 189, 190, 130, 24, 25, 26, 27, 28, 345, 346, 347, 348, 380, 381, 382, 383, 402, 403, 404, 405, 406, 407, 408, 409, 410, 411, 412, 413, 414, 415, 416, 394, 395, 396, 397, 398, 399, 400, 401, 388] (by decide +kernel) (by decide +kernel)
set_option maxRecDepth 20000 in
theorem gX8_digest_X8_mixTypes : GoodIn wsX8_digest (wsV RX8 278 RX8 yX8_mixTypes wsX8_mixTypes) := goodIn_app (goodIn_of _ (by decide +kernel)) ggX8_digest_X8_mixTypes
theorem dX8_digest_0 : decode cX8_digest 0 = .ok (.aload_n 0, 1) := by decide +kernel
theorem dX8_digest_1 : decode cX8_digest 1 = .ok (.invokevirtual 210, 3) := by decide +kernel
theorem dX8_digest_4 : decode cX8_digest 4 = .ok (.istore_n 1, 1) := by decide +kernel
theorem dX8_digest_5 : decode cX8_digest 5 = .ok (.aload_n 0, 1) := by decide +kernel
theorem dX8_digest_6 : decode cX8_digest 6 = .ok (.getfield 37, 3) := by decide +kernel
theorem dX8_digest_9 : decode cX8_digest 9 = .ok (.iload_n 1, 1) := by decide +kernel
theorem dX8_digest_10 : decode cX8_digest 10 = .ok (.invokevirtual 239, 3) := by decide +kernel
theorem dX8_digest_13 : decode cX8_digest 13 = .ok (.ldc2_w 268, 3) := by decide +kernel
theorem dX8_digest_16 : decode cX8_digest 16 = .ok (.iload_n 1, 1) := by decide +kernel
theorem dX8_digest_17 : decode cX8_digest 17 = .ok (.i2l, 1) := by decide +kernel
theorem dX8_digest_18 : decode cX8_digest 18 = .ok (.invokestatic 270, 3) := by decide +kernel
theorem dX8_digest_21 : decode cX8_digest 21 = .ok (.lstore_n 2, 1) := by decide +kernel
theorem dX8_digest_22 : decode cX8_digest 22 = .ok (.iconst 0, 1) := by decide +kernel
theorem dX8_digest_23 : decode cX8_digest 23 = .ok (.istore 4, 2) := by decide +kernel
theorem dX8_digest_25 : decode cX8_digest 25 = .ok (.iload 4, 2) := by decide +kernel
theorem dX8_digest_27 : decode cX8_digest 27 = .ok (.iconst 4, 1) := by decide +kernel
theorem dX8_digest_28 : decode cX8_digest 28 = .ok (.if_icmp .gt 24, 3) := by decide +kernel
theorem dX8_digest_31 : decode cX8_digest 31 = .ok (.lload_n 2, 1) := by decide +kernel
theorem dX8_digest_32 : decode cX8_digest 32 = .ok (.aload_n 0, 1) := by decide +kernel
theorem dX8_digest_33 : decode cX8_digest 33 = .ok (.getfield 19, 3) := by decide +kernel
theorem dX8_digest_36 : decode cX8_digest 36 = .ok (.iload 4, 2) := by decide +kernel
theorem dX8_digest_38 : decode cX8_digest 38 = .ok (.invokevirtual 205, 3) := by decide +kernel
theorem dX8_digest_41 : decode cX8_digest 41 = .ok (.i2l, 1) := by decide +kernel
theorem dX8_digest_42 : decode cX8_digest 42 = .ok (.invokestatic 270, 3) := by decide +kernel
theorem dX8_digest_45 : decode cX8_digest 45 = .ok (.lstore_n 2, 1) := by decide +kernel
theorem dX8_digest_46 : decode cX8_digest 46 = .ok (.iinc 4 1, 3) := by decide +kernel
theorem dX8_digest_49 : decode cX8_digest 49 = .ok (.goto (-24), 3) := by decide +kernel
theorem dX8_digest_52 : decode cX8_digest 52 = .ok (.aload_n 0, 1) := by decide +kernel
theorem dX8_digest_53 : decode cX8_digest 53 = .ok (.lload_n 2, 1) := by decide +kernel
theorem dX8_digest_54 : decode cX8_digest 54 = .ok (.iload_n 1, 1) := by decide +kernel
theorem dX8_digest_55 : decode cX8_digest 55 = .ok (.invokevirtual 274, 3) := by decide +kernel
theorem dX8_digest_58 : decode cX8_digest 58 = .ok (.lstore_n 2, 1) := by decide +kernel
theorem dX8_digest_59 : decode cX8_digest 59 = .ok (.lload_n 2, 1) := by decide +kernel
theorem dX8_digest_60 : decode cX8_digest 60 = .ok (.aload_n 0, 1) := by decide +kernel
theorem dX8_digest_61 : decode cX8_digest 61 = .ok (.getfield 37, 3) := by decide +kernel
theorem dX8_digest_64 : decode cX8_digest 64 = .ok (.invokevirtual 242, 3) := by decide +kernel
theorem dX8_digest_67 : decode cX8_digest 67 = .ok (.i2l, 1) := by decide +kernel
theorem dX8_digest_68 : decode cX8_digest 68 = .ok (.invokestatic 270, 3) := by decide +kernel
theorem dX8_digest_71 : decode cX8_digest 71 = .ok (.lstore_n 2, 1) := by decide +kernel
theorem dX8_digest_72 : decode cX8_digest 72 = .ok (.iconst 0, 1) := by decide +kernel
theorem dX8_digest_73 : decode cX8_digest 73 = .ok (.istore 4, 2) := by decide +kernel
theorem dX8_digest_75 : decode cX8_digest 75 = .ok (.iload 4, 2) := by decide +kernel
theorem dX8_digest_77 : decode cX8_digest 77 = .ok (.aload_n 0, 1) := by decide +kernel
theorem dX8_digest_78 : decode cX8_digest 78 = .ok (.getfield 37, 3) := by decide +kernel
theorem dX8_digest_81 : decode cX8_digest 81 = .ok (.invokevirtual 242, 3) := by decide +kernel
theorem dX8_digest_84 : decode cX8_digest 84 = .ok (.if_icmp .ge 54, 3) := by decide +kernel
theorem dX8_digest_87 : decode cX8_digest 87 = .ok (.lload_n 2, 1) := by decide +kernel
theorem dX8_digest_88 : decode cX8_digest 88 = .ok (.aload_n 0, 1) := by decide +kernel
theorem dX8_digest_89 : decode cX8_digest 89 = .ok (.getfield 37, 3) := by decide +kernel
theorem dX8_digest_92 : decode cX8_digest 92 = .ok (.iload 4, 2) := by decide +kernel
theorem dX8_digest_94 : decode cX8_digest 94 = .ok (.invokevirtual 245, 3) := by decide +kernel
theorem dX8_digest_97 : decode cX8_digest 97 = .ok (.i2l, 1) := by decide +kernel
theorem dX8_digest_98 : decode cX8_digest 98 = .ok (.invokestatic 270, 3) := by decide +kernel
theorem dX8_digest_101 : decode cX8_digest 101 = .ok (.lstore_n 2, 1) := by decide +kernel
theorem dX8_digest_102 : decode cX8_digest 102 = .ok (.lload_n 2, 1) := by decide +kernel
theorem dX8_digest_103 : decode cX8_digest 103 = .ok (.aload_n 0, 1) := by decide +kernel
theorem dX8_digest_104 : decode cX8_digest 104 = .ok (.getfield 37, 3) := by decide +kernel
theorem dX8_digest_107 : decode cX8_digest 107 = .ok (.iload 4, 2) := by decide +kernel
theorem dX8_digest_109 : decode cX8_digest 109 = .ok (.invokevirtual 248, 3) := by decide +kernel
theorem dX8_digest_112 : decode cX8_digest 112 = .ok (.i2l, 1) := by decide +kernel
theorem dX8_digest_113 : decode cX8_digest 113 = .ok (.invokestatic 270, 3) := by decide +kernel
theorem dX8_digest_116 : decode cX8_digest 116 = .ok (.lstore_n 2, 1) := by decide +kernel
theorem dX8_digest_117 : decode cX8_digest 117 = .ok (.lload_n 2, 1) := by decide +kernel
theorem dX8_digest_118 : decode cX8_digest 118 = .ok (.aload_n 0, 1) := by decide +kernel
theorem dX8_digest_119 : decode cX8_digest 119 = .ok (.getfield 37, 3) := by decide +kernel
theorem dX8_digest_122 : decode cX8_digest 122 = .ok (.iload 4, 2) := by decide +kernel
theorem dX8_digest_124 : decode cX8_digest 124 = .ok (.invokevirtual 251, 3) := by decide +kernel
theorem dX8_digest_127 : decode cX8_digest 127 = .ok (.i2l, 1) := by decide +kernel
theorem dX8_digest_128 : decode cX8_digest 128 = .ok (.invokestatic 270, 3) := by decide +kernel
theorem dX8_digest_131 : decode cX8_digest 131 = .ok (.lstore_n 2, 1) := by decide +kernel
theorem dX8_digest_132 : decode cX8_digest 132 = .ok (.iinc 4 1, 3) := by decide +kernel
theorem dX8_digest_135 : decode cX8_digest 135 = .ok (.goto (-60), 3) := by decide +kernel
theorem dX8_digest_138 : decode cX8_digest 138 = .ok (.aload_n 0, 1) := by decide +kernel
theorem dX8_digest_139 : decode cX8_digest 139 = .ok (.lload_n 2, 1) := by decide +kernel
theorem dX8_digest_140 : decode cX8_digest 140 = .ok (.iload_n 1, 1) := by decide +kernel
theorem dX8_digest_141 : decode cX8_digest 141 = .ok (.invokevirtual 278, 3) := by decide +kernel
theorem dX8_digest_144 : decode cX8_digest 144 = .ok (.lreturn, 1) := by decide +kernel
set_option maxRecDepth 20000 in
theorem ggX8_mixPresences_X4_size : GoodIn wsX8_mixPresences wsX4_size := goodIn_r _ [6, 7, 8, 9, 10, 11, 12, 13, 14, 15, 16, 5, 17, 18, 19, 20, 21, 22, 23, 24, 25, 26, 27, 28, 74, 75, 76, 77, 78, 79, 80, 81, 82, 83, 84, 85, 86, 87, 88, 89, 90, 91, 92, 93, 94, 95, 96, 97, 98, 99] (by decide +kernel) (by decide +kernel)
set_option maxRecDepth 20000 in
theorem gX8_mixPresences_X4_size : GoodIn wsX8_mixPresences (wsV RX8 205 RX4 yX4_size wsX4_size) := goodIn_app (goodIn_of _ (by decide +kernel)) ggX8_mixPresences_X4_size
set_option maxRecDepth 20000 in
theorem ggX8_mixPresences_X4_whereThere : GoodIn wsX8_mixPresences wsX4_whereThere := goodIn_r _ [32, 18, 33, 34, 20, 21, 14, 15, 16, 5, 17, 19, 22, 35, 36, 37, 26, 38, 39, 40, 41, 42, 43, 44, 45, 46, 47, 48, 49, 50, 51, 52, 53, 54, 55, 56, 57, 7, 58, 59, 60, 61, 11, 62, 63, 64, 74, 75, 76, 77, 78, 79, 80, 81, 89, 90, 91, 92, 93, 94, 95, 96, 97, 98, 99, 100, 82, 83, 84, 85, 86, 87, 88] (by decide +kernel) (by decide +kernel)
set_option maxRecDepth 20000 in
theorem gX8_mixPresences_X4_whereThere : GoodIn wsX8_mixPresences (wsV RX8 207 RX4 yX4_whereThere wsX4_whereThere) := goodIn_app (goodIn_of _ (by decide +kernel)) ggX8_mixPresences_X4_whereThere
set_option maxRecDepth 20000 in
theorem ggX8_mixPresences_X8_mix : GoodIn wsX8_mixPresences wsX8_mix := goodIn_r _ [68, 69] (by decide +kernel) (by decide +kernel)
set_option maxRecDepth 20000 in
theorem gX8_mixPresences_X8_mix : GoodIn wsX8_mixPresences (va_wsS RX8 270 yX8_mix wsX8_mix) := goodIn_app (goodIn_of _ (by decide +kernel)) ggX8_mixPresences_X8_mix
theorem dX8_mixPresences_0 : decode cX8_mixPresences 0 = .ok (.lload_n 1, 1) := by decide +kernel
theorem dX8_mixPresences_1 : decode cX8_mixPresences 1 = .ok (.lstore 4, 2) := by decide +kernel
theorem dX8_mixPresences_3 : decode cX8_mixPresences 3 = .ok (.iconst 0, 1) := by decide +kernel
theorem dX8_mixPresences_4 : decode cX8_mixPresences 4 = .ok (.istore 6, 2) := by decide +kernel
theorem dX8_mixPresences_6 : decode cX8_mixPresences 6 = .ok (.iload 6, 2) := by decide +kernel
theorem dX8_mixPresences_8 : decode cX8_mixPresences 8 = .ok (.iconst 3, 1) := by decide +kernel
theorem dX8_mixPresences_9 : decode cX8_mixPresences 9 = .ok (.if_icmp .gt 53, 3) := by decide +kernel
theorem dX8_mixPresences_12 : decode cX8_mixPresences 12 = .ok (.iconst 0, 1) := by decide +kernel
theorem dX8_mixPresences_13 : decode cX8_mixPresences 13 = .ok (.istore 7, 2) := by decide +kernel
theorem dX8_mixPresences_15 : decode cX8_mixPresences 15 = .ok (.iload 7, 2) := by decide +kernel
theorem dX8_mixPresences_17 : decode cX8_mixPresences 17 = .ok (.aload_n 0, 1) := by decide +kernel
theorem dX8_mixPresences_18 : decode cX8_mixPresences 18 = .ok (.getfield 19, 3) := by decide +kernel
theorem dX8_mixPresences_21 : decode cX8_mixPresences 21 = .ok (.iload 6, 2) := by decide +kernel
theorem dX8_mixPresences_23 : decode cX8_mixPresences 23 = .ok (.invokevirtual 205, 3) := by decide +kernel
theorem dX8_mixPresences_26 : decode cX8_mixPresences 26 = .ok (.if_icmp .ge 30, 3) := by decide +kernel
theorem dX8_mixPresences_29 : decode cX8_mixPresences 29 = .ok (.lload 4, 2) := by decide +kernel
theorem dX8_mixPresences_31 : decode cX8_mixPresences 31 = .ok (.aload_n 0, 1) := by decide +kernel
theorem dX8_mixPresences_32 : decode cX8_mixPresences 32 = .ok (.getfield 19, 3) := by decide +kernel
theorem dX8_mixPresences_35 : decode cX8_mixPresences 35 = .ok (.iload 6, 2) := by decide +kernel
theorem dX8_mixPresences_37 : decode cX8_mixPresences 37 = .ok (.iload 7, 2) := by decide +kernel
theorem dX8_mixPresences_39 : decode cX8_mixPresences 39 = .ok (.invokevirtual 207, 3) := by decide +kernel
theorem dX8_mixPresences_42 : decode cX8_mixPresences 42 = .ok (.iload_n 3, 1) := by decide +kernel
theorem dX8_mixPresences_43 : decode cX8_mixPresences 43 = .ok (.iand, 1) := by decide +kernel
theorem dX8_mixPresences_44 : decode cX8_mixPresences 44 = .ok (.i2l, 1) := by decide +kernel
theorem dX8_mixPresences_45 : decode cX8_mixPresences 45 = .ok (.invokestatic 270, 3) := by decide +kernel
theorem dX8_mixPresences_48 : decode cX8_mixPresences 48 = .ok (.lstore 4, 2) := by decide +kernel
theorem dX8_mixPresences_50 : decode cX8_mixPresences 50 = .ok (.iinc 7 1, 3) := by decide +kernel
theorem dX8_mixPresences_53 : decode cX8_mixPresences 53 = .ok (.goto (-38), 3) := by decide +kernel
theorem dX8_mixPresences_56 : decode cX8_mixPresences 56 = .ok (.iinc 6 1, 3) := by decide +kernel
theorem dX8_mixPresences_59 : decode cX8_mixPresences 59 = .ok (.goto (-53), 3) := by decide +kernel
theorem dX8_mixPresences_62 : decode cX8_mixPresences 62 = .ok (.lload 4, 2) := by decide +kernel
theorem dX8_mixPresences_64 : decode cX8_mixPresences 64 = .ok (.lreturn, 1) := by decide +kernel
set_option maxRecDepth 20000 in
theorem ggX8_mixTypes_X1_size : GoodIn wsX8_mixTypes wsX1_size := goodIn_r _ [8, 9, 45, 46, 47, 48, 49, 50, 51] (by decide +kernel) (by decide +kernel)
set_option maxRecDepth 20000 in
theorem gX8_mixTypes_X1_size : GoodIn wsX8_mixTypes (wsV RX8 144 RX1 yX1_size wsX1_size) := goodIn_app (goodIn_of _ (by decide +kernel)) ggX8_mixTypes_X1_size
set_option maxRecDepth 20000 in
theorem ggX8_mixTypes_X8_isIn : GoodIn wsX8_mixTypes wsX8_isIn := goodIn_r _ [13] (by decide +kernel) (by decide +kernel)
set_option maxRecDepth 20000 in
theorem gX8_mixTypes_X8_isIn : GoodIn wsX8_mixTypes (va_wsS RX8 281 yX8_isIn wsX8_isIn) := goodIn_app (goodIn_of _ (by decide +kernel)) ggX8_mixTypes_X8_isIn
set_option maxRecDepth 20000 in
theorem ggX8_mixTypes_X7_typeIn : GoodIn wsX8_mixTypes wsX7_typeIn := goodIn_r _ [18, 19, 20, 21, 17, 22, 23, 24, 25, 26, 27, 28, 52, 53, 54, 55, 56, 57, 58, 59, 60] (by decide +kernel) (by decide +kernel)
set_option maxRecDepth 20000 in
theorem gX8_mixTypes_X7_typeIn : GoodIn wsX8_mixTypes (wsV RX8 236 RX7 yX7_typeIn wsX7_typeIn) := goodIn_app (goodIn_of _ (by decide +kernel)) ggX8_mixTypes_X7_typeIn
set_option maxRecDepth 20000 in
theorem ggX8_mixTypes_X8_mix : GoodIn wsX8_mixTypes wsX8_mix := goodIn_r _ [31, 32] (by decide +kernel) (by decide +kernel)
set_option maxRecDepth 20000 in
theorem gX8_mixTypes_X8_mix : GoodIn wsX8_mixTypes (va_wsS RX8 270 yX8_mix wsX8_mix) := goodIn_app (goodIn_of _ (by decide +kernel)) ggX8_mixTypes_X8_mix
theorem dX8_mixTypes_0 : decode cX8_mixTypes 0 = .ok (.lload_n 1, 1) := by decide +kernel
theorem dX8_mixTypes_1 : decode cX8_mixTypes 1 = .ok (.lstore 4, 2) := by decide +kernel
theorem dX8_mixTypes_3 : decode cX8_mixTypes 3 = .ok (.iconst 0, 1) := by decide +kernel
theorem dX8_mixTypes_4 : decode cX8_mixTypes 4 = .ok (.istore 6, 2) := by decide +kernel
theorem dX8_mixTypes_6 : decode cX8_mixTypes 6 = .ok (.iload 6, 2) := by decide +kernel
theorem dX8_mixTypes_8 : decode cX8_mixTypes 8 = .ok (.aload_n 0, 1) := by decide +kernel
theorem dX8_mixTypes_9 : decode cX8_mixTypes 9 = .ok (.getfield 19, 3) := by decide +kernel
theorem dX8_mixTypes_12 : decode cX8_mixTypes 12 = .ok (.getfield 140, 3) := by decide +kernel
theorem dX8_mixTypes_15 : decode cX8_mixTypes 15 = .ok (.invokevirtual 144, 3) := by decide +kernel
theorem dX8_mixTypes_18 : decode cX8_mixTypes 18 = .ok (.if_icmp .ge 53, 3) := by decide +kernel
theorem dX8_mixTypes_21 : decode cX8_mixTypes 21 = .ok (.iconst 0, 1) := by decide +kernel
theorem dX8_mixTypes_22 : decode cX8_mixTypes 22 = .ok (.istore 7, 2) := by decide +kernel
theorem dX8_mixTypes_24 : decode cX8_mixTypes 24 = .ok (.iload 7, 2) := by decide +kernel
theorem dX8_mixTypes_26 : decode cX8_mixTypes 26 = .ok (.bipush 16, 2) := by decide +kernel
theorem dX8_mixTypes_28 : decode cX8_mixTypes 28 = .ok (.if_icmp .ge 37, 3) := by decide +kernel
theorem dX8_mixTypes_31 : decode cX8_mixTypes 31 = .ok (.iload_n 3, 1) := by decide +kernel
theorem dX8_mixTypes_32 : decode cX8_mixTypes 32 = .ok (.iload 7, 2) := by decide +kernel
theorem dX8_mixTypes_34 : decode cX8_mixTypes 34 = .ok (.invokestatic 281, 3) := by decide +kernel
theorem dX8_mixTypes_37 : decode cX8_mixTypes 37 = .ok (.ifCond .eq 22, 3) := by decide +kernel
theorem dX8_mixTypes_40 : decode cX8_mixTypes 40 = .ok (.lload 4, 2) := by decide +kernel
theorem dX8_mixTypes_42 : decode cX8_mixTypes 42 = .ok (.aload_n 0, 1) := by decide +kernel
theorem dX8_mixTypes_43 : decode cX8_mixTypes 43 = .ok (.getfield 28, 3) := by decide +kernel
theorem dX8_mixTypes_46 : decode cX8_mixTypes 46 = .ok (.iload 6, 2) := by decide +kernel
theorem dX8_mixTypes_48 : decode cX8_mixTypes 48 = .ok (.iload 7, 2) := by decide +kernel
theorem dX8_mixTypes_50 : decode cX8_mixTypes 50 = .ok (.invokevirtual 236, 3) := by decide +kernel
theorem dX8_mixTypes_53 : decode cX8_mixTypes 53 = .ok (.i2l, 1) := by decide +kernel
theorem dX8_mixTypes_54 : decode cX8_mixTypes 54 = .ok (.invokestatic 270, 3) := by decide +kernel
theorem dX8_mixTypes_57 : decode cX8_mixTypes 57 = .ok (.lstore 4, 2) := by decide +kernel
theorem dX8_mixTypes_59 : decode cX8_mixTypes 59 = .ok (.iinc 7 1, 3) := by decide +kernel
theorem dX8_mixTypes_62 : decode cX8_mixTypes 62 = .ok (.goto (-38), 3) := by decide +kernel
theorem dX8_mixTypes_65 : decode cX8_mixTypes 65 = .ok (.iinc 6 1, 3) := by decide +kernel
theorem dX8_mixTypes_68 : decode cX8_mixTypes 68 = .ok (.goto (-62), 3) := by decide +kernel
theorem dX8_mixTypes_71 : decode cX8_mixTypes 71 = .ok (.lload 4, 2) := by decide +kernel
theorem dX8_mixTypes_73 : decode cX8_mixTypes 73 = .ok (.lreturn, 1) := by decide +kernel
set_option maxRecDepth 20000 in
theorem ggX8_isProduct_X6_allowed : GoodIn wsX8_isProduct wsX6_allowed := goodIn_r _ [6, 7, 8, 9, 5, 10, 11, 12, 13, 14, 15, 16, 17, 18, 19, 20, 21, 22, 23, 29, 30, 31, 32, 33] (by decide +kernel) (by decide +kernel)
set_option maxRecDepth 20000 in
theorem gX8_isProduct_X6_allowed : GoodIn wsX8_isProduct (wsV RX8 70 RX6 yX6_allowed wsX6_allowed) := goodIn_app (goodIn_of _ (by decide +kernel)) ggX8_isProduct_X6_allowed
set_option maxRecDepth 20000 in
theorem ggX8_isProduct_X8_isIn : GoodIn wsX8_isProduct wsX8_isIn := goodIn_r _ [23] (by decide +kernel) (by decide +kernel)
set_option maxRecDepth 20000 in
theorem gX8_isProduct_X8_isIn : GoodIn wsX8_isProduct (va_wsS RX8 281 yX8_isIn wsX8_isIn) := goodIn_app (goodIn_of _ (by decide +kernel)) ggX8_isProduct_X8_isIn
theorem dX8_isProduct_0 : decode cX8_isProduct 0 = .ok (.aload_n 0, 1) := by decide +kernel
theorem dX8_isProduct_1 : decode cX8_isProduct 1 = .ok (.getfield 10, 3) := by decide +kernel
theorem dX8_isProduct_4 : decode cX8_isProduct 4 = .ok (.invokevirtual 70, 3) := by decide +kernel
theorem dX8_isProduct_7 : decode cX8_isProduct 7 = .ok (.iload_n 1, 1) := by decide +kernel
theorem dX8_isProduct_8 : decode cX8_isProduct 8 = .ok (.invokestatic 281, 3) := by decide +kernel
theorem dX8_isProduct_11 : decode cX8_isProduct 11 = .ok (.ireturn, 1) := by decide +kernel
theorem dX8_mix_0 : decode cX8_mix 0 = .ok (.lload_n 0, 1) := by decide +kernel
theorem dX8_mix_1 : decode cX8_mix 1 = .ok (.ldc2_w 284, 3) := by decide +kernel
theorem dX8_mix_4 : decode cX8_mix 4 = .ok (.lmul, 1) := by decide +kernel
theorem dX8_mix_5 : decode cX8_mix 5 = .ok (.lload_n 2, 1) := by decide +kernel
theorem dX8_mix_6 : decode cX8_mix 6 = .ok (.ladd, 1) := by decide +kernel
theorem dX8_mix_7 : decode cX8_mix 7 = .ok (.lreturn, 1) := by decide +kernel
theorem dX8_isFeature_0 : decode cX8_isFeature 0 = .ok (.iload_n 0, 1) := by decide +kernel
theorem dX8_isFeature_1 : decode cX8_isFeature 1 = .ok (.ifCond .lt 12, 3) := by decide +kernel
theorem dX8_isFeature_4 : decode cX8_isFeature 4 = .ok (.iload_n 0, 1) := by decide +kernel
theorem dX8_isFeature_5 : decode cX8_isFeature 5 = .ok (.iconst 4, 1) := by decide +kernel
theorem dX8_isFeature_6 : decode cX8_isFeature 6 = .ok (.if_icmp .ge 7, 3) := by decide +kernel
theorem dX8_isFeature_9 : decode cX8_isFeature 9 = .ok (.iconst 1, 1) := by decide +kernel
theorem dX8_isFeature_10 : decode cX8_isFeature 10 = .ok (.goto 4, 3) := by decide +kernel
theorem dX8_isFeature_13 : decode cX8_isFeature 13 = .ok (.iconst 0, 1) := by decide +kernel
theorem dX8_isFeature_14 : decode cX8_isFeature 14 = .ok (.ireturn, 1) := by decide +kernel
theorem dX8_isName_0 : decode cX8_isName 0 = .ok (.iload_n 0, 1) := by decide +kernel
theorem dX8_isName_1 : decode cX8_isName 1 = .ok (.ifCond .lt 13, 3) := by decide +kernel
theorem dX8_isName_4 : decode cX8_isName 4 = .ok (.iload_n 0, 1) := by decide +kernel
theorem dX8_isName_5 : decode cX8_isName 5 = .ok (.bipush 10, 2) := by decide +kernel
theorem dX8_isName_7 : decode cX8_isName 7 = .ok (.if_icmp .ge 7, 3) := by decide +kernel
theorem dX8_isName_10 : decode cX8_isName 10 = .ok (.iconst 1, 1) := by decide +kernel
theorem dX8_isName_11 : decode cX8_isName 11 = .ok (.goto 4, 3) := by decide +kernel
theorem dX8_isName_14 : decode cX8_isName 14 = .ok (.iconst 0, 1) := by decide +kernel
theorem dX8_isName_15 : decode cX8_isName 15 = .ok (.ireturn, 1) := by decide +kernel
theorem dX8_isCondition_0 : decode cX8_isCondition 0 = .ok (.iload_n 0, 1) := by decide +kernel
theorem dX8_isCondition_1 : decode cX8_isCondition 1 = .ok (.ifCond .lt 29, 3) := by decide +kernel
theorem dX8_isCondition_4 : decode cX8_isCondition 4 = .ok (.iload_n 0, 1) := by decide +kernel
theorem dX8_isCondition_5 : decode cX8_isCondition 5 = .ok (.bipush 16, 2) := by decide +kernel
theorem dX8_isCondition_7 : decode cX8_isCondition 7 = .ok (.if_icmp .ge 23, 3) := by decide +kernel
theorem dX8_isCondition_10 : decode cX8_isCondition 10 = .ok (.iload_n 1, 1) := by decide +kernel
theorem dX8_isCondition_11 : decode cX8_isCondition 11 = .ok (.ifCond .lt 19, 3) := by decide +kernel
theorem dX8_isCondition_14 : decode cX8_isCondition 14 = .ok (.iload_n 1, 1) := by decide +kernel
theorem dX8_isCondition_15 : decode cX8_isCondition 15 = .ok (.bipush 16, 2) := by decide +kernel
theorem dX8_isCondition_17 : decode cX8_isCondition 17 = .ok (.if_icmp .ge 13, 3) := by decide +kernel
theorem dX8_isCondition_20 : decode cX8_isCondition 20 = .ok (.iload_n 0, 1) := by decide +kernel
theorem dX8_isCondition_21 : decode cX8_isCondition 21 = .ok (.iload_n 1, 1) := by decide +kernel
theorem dX8_isCondition_22 : decode cX8_isCondition 22 = .ok (.iand, 1) := by decide +kernel
theorem dX8_isCondition_23 : decode cX8_isCondition 23 = .ok (.ifCond .ne 7, 3) := by decide +kernel
theorem dX8_isCondition_26 : decode cX8_isCondition 26 = .ok (.iconst 1, 1) := by decide +kernel
theorem dX8_isCondition_27 : decode cX8_isCondition 27 = .ok (.goto 4, 3) := by decide +kernel
theorem dX8_isCondition_30 : decode cX8_isCondition 30 = .ok (.iconst 0, 1) := by decide +kernel
theorem dX8_isCondition_31 : decode cX8_isCondition 31 = .ok (.ireturn, 1) := by decide +kernel
theorem dX8_isIn_0 : decode cX8_isIn 0 = .ok (.iload_n 1, 1) := by decide +kernel
theorem dX8_isIn_1 : decode cX8_isIn 1 = .ok (.ifCond .lt 22, 3) := by decide +kernel
theorem dX8_isIn_4 : decode cX8_isIn 4 = .ok (.iload_n 1, 1) := by decide +kernel
theorem dX8_isIn_5 : decode cX8_isIn 5 = .ok (.bipush 32, 2) := by decide +kernel
theorem dX8_isIn_7 : decode cX8_isIn 7 = .ok (.if_icmp .ge 16, 3) := by decide +kernel
theorem dX8_isIn_10 : decode cX8_isIn 10 = .ok (.iload_n 0, 1) := by decide +kernel
theorem dX8_isIn_11 : decode cX8_isIn 11 = .ok (.iload_n 1, 1) := by decide +kernel
theorem dX8_isIn_12 : decode cX8_isIn 12 = .ok (.ishr, 1) := by decide +kernel
theorem dX8_isIn_13 : decode cX8_isIn 13 = .ok (.iconst 1, 1) := by decide +kernel
theorem dX8_isIn_14 : decode cX8_isIn 14 = .ok (.iand, 1) := by decide +kernel
theorem dX8_isIn_15 : decode cX8_isIn 15 = .ok (.iconst 1, 1) := by decide +kernel
theorem dX8_isIn_16 : decode cX8_isIn 16 = .ok (.if_icmp .ne 7, 3) := by decide +kernel
theorem dX8_isIn_19 : decode cX8_isIn 19 = .ok (.iconst 1, 1) := by decide +kernel
theorem dX8_isIn_20 : decode cX8_isIn 20 = .ok (.goto 4, 3) := by decide +kernel
theorem dX8_isIn_23 : decode cX8_isIn 23 = .ok (.iconst 0, 1) := by decide +kernel
theorem dX8_isIn_24 : decode cX8_isIn 24 = .ok (.ireturn, 1) := by decide +kernel
theorem dX8_configurationsWith_0 : decode cX8_configurationsWith 0 = .ok (.iconst 0, 1) := by decide +kernel
theorem dX8_configurationsWith_1 : decode cX8_configurationsWith 1 = .ok (.istore_n 2, 1) := by decide +kernel
theorem dX8_configurationsWith_2 : decode cX8_configurationsWith 2 = .ok (.iconst 0, 1) := by decide +kernel
theorem dX8_configurationsWith_3 : decode cX8_configurationsWith 3 = .ok (.istore_n 3, 1) := by decide +kernel
theorem dX8_configurationsWith_4 : decode cX8_configurationsWith 4 = .ok (.iload_n 3, 1) := by decide +kernel
theorem dX8_configurationsWith_5 : decode cX8_configurationsWith 5 = .ok (.bipush 16, 2) := by decide +kernel
theorem dX8_configurationsWith_7 : decode cX8_configurationsWith 7 = .ok (.if_icmp .ge 28, 3) := by decide +kernel
theorem dX8_configurationsWith_10 : decode cX8_configurationsWith 10 = .ok (.iload_n 3, 1) := by decide +kernel
theorem dX8_configurationsWith_11 : decode cX8_configurationsWith 11 = .ok (.iload_n 0, 1) := by decide +kernel
theorem dX8_configurationsWith_12 : decode cX8_configurationsWith 12 = .ok (.iand, 1) := by decide +kernel
theorem dX8_configurationsWith_13 : decode cX8_configurationsWith 13 = .ok (.iload_n 0, 1) := by decide +kernel
theorem dX8_configurationsWith_14 : decode cX8_configurationsWith 14 = .ok (.if_icmp .ne 15, 3) := by decide +kernel
theorem dX8_configurationsWith_17 : decode cX8_configurationsWith 17 = .ok (.iload_n 3, 1) := by decide +kernel
theorem dX8_configurationsWith_18 : decode cX8_configurationsWith 18 = .ok (.iload_n 1, 1) := by decide +kernel
theorem dX8_configurationsWith_19 : decode cX8_configurationsWith 19 = .ok (.iand, 1) := by decide +kernel
theorem dX8_configurationsWith_20 : decode cX8_configurationsWith 20 = .ok (.ifCond .ne 9, 3) := by decide +kernel
theorem dX8_configurationsWith_23 : decode cX8_configurationsWith 23 = .ok (.iload_n 2, 1) := by decide +kernel
theorem dX8_configurationsWith_24 : decode cX8_configurationsWith 24 = .ok (.iconst 1, 1) := by decide +kernel
theorem dX8_configurationsWith_25 : decode cX8_configurationsWith 25 = .ok (.iload_n 3, 1) := by decide +kernel
theorem dX8_configurationsWith_26 : decode cX8_configurationsWith 26 = .ok (.ishl, 1) := by decide +kernel
theorem dX8_configurationsWith_27 : decode cX8_configurationsWith 27 = .ok (.ior, 1) := by decide +kernel
theorem dX8_configurationsWith_28 : decode cX8_configurationsWith 28 = .ok (.istore_n 2, 1) := by decide +kernel
theorem dX8_configurationsWith_29 : decode cX8_configurationsWith 29 = .ok (.iinc 3 1, 3) := by decide +kernel
theorem dX8_configurationsWith_32 : decode cX8_configurationsWith 32 = .ok (.goto (-28), 3) := by decide +kernel
theorem dX8_configurationsWith_35 : decode cX8_configurationsWith 35 = .ok (.iload_n 2, 1) := by decide +kernel
theorem dX8_configurationsWith_36 : decode cX8_configurationsWith 36 = .ok (.ireturn, 1) := by decide +kernel
theorem dX9_init_0 : decode cX9_init 0 = .ok (.aload_n 0, 1) := by decide +kernel
theorem dX9_init_1 : decode cX9_init 1 = .ok (.invokespecial 1, 3) := by decide +kernel
theorem dX9_init_4 : decode cX9_init 4 = .ok (.aload_n 0, 1) := by decide +kernel
theorem dX9_init_5 : decode cX9_init 5 = .ok (.bipush 8, 2) := by decide +kernel
theorem dX9_init_7 : decode cX9_init 7 = .ok (.newarray .int, 2) := by decide +kernel
theorem dX9_init_9 : decode cX9_init 9 = .ok (.putfield 9, 3) := by decide +kernel
theorem dX9_init_12 : decode cX9_init 12 = .ok (.aload_n 0, 1) := by decide +kernel
theorem dX9_init_13 : decode cX9_init 13 = .ok (.bipush 8, 2) := by decide +kernel
theorem dX9_init_15 : decode cX9_init 15 = .ok (.newarray .int, 2) := by decide +kernel
theorem dX9_init_17 : decode cX9_init 17 = .ok (.putfield 13, 3) := by decide +kernel
theorem dX9_init_20 : decode cX9_init 20 = .ok (.aload_n 0, 1) := by decide +kernel
theorem dX9_init_21 : decode cX9_init 21 = .ok (.bipush 8, 2) := by decide +kernel
theorem dX9_init_23 : decode cX9_init 23 = .ok (.newarray .int, 2) := by decide +kernel
theorem dX9_init_25 : decode cX9_init 25 = .ok (.putfield 16, 3) := by decide +kernel
theorem dX9_init_28 : decode cX9_init 28 = .ok (.aload_n 0, 1) := by decide +kernel
theorem dX9_init_29 : decode cX9_init 29 = .ok (.iconst 4, 1) := by decide +kernel
theorem dX9_init_30 : decode cX9_init 30 = .ok (.newarray .int, 2) := by decide +kernel
theorem dX9_init_32 : decode cX9_init 32 = .ok (.putfield 19, 3) := by decide +kernel
theorem dX9_init_35 : decode cX9_init 35 = .ok (.aload_n 0, 1) := by decide +kernel
theorem dX9_init_36 : decode cX9_init 36 = .ok (.bipush 96, 2) := by decide +kernel
theorem dX9_init_38 : decode cX9_init 38 = .ok (.newarray .int, 2) := by decide +kernel
theorem dX9_init_40 : decode cX9_init 40 = .ok (.putfield 22, 3) := by decide +kernel
theorem dX9_init_43 : decode cX9_init 43 = .ok (.aload_n 0, 1) := by decide +kernel
theorem dX9_init_44 : decode cX9_init 44 = .ok (.bipush 96, 2) := by decide +kernel
theorem dX9_init_46 : decode cX9_init 46 = .ok (.newarray .int, 2) := by decide +kernel
theorem dX9_init_48 : decode cX9_init 48 = .ok (.putfield 25, 3) := by decide +kernel
theorem dX9_init_51 : decode cX9_init 51 = .ok (.aload_n 0, 1) := by decide +kernel
theorem dX9_init_52 : decode cX9_init 52 = .ok (.bipush 12, 2) := by decide +kernel
theorem dX9_init_54 : decode cX9_init 54 = .ok (.newarray .int, 2) := by decide +kernel
theorem dX9_init_56 : decode cX9_init 56 = .ok (.putfield 28, 3) := by decide +kernel
theorem dX9_init_59 : decode cX9_init 59 = .ok (.aload_n 0, 1) := by decide +kernel
theorem dX9_init_60 : decode cX9_init 60 = .ok (.bipush 12, 2) := by decide +kernel
theorem dX9_init_62 : decode cX9_init 62 = .ok (.newarray .int, 2) := by decide +kernel
theorem dX9_init_64 : decode cX9_init 64 = .ok (.putfield 31, 3) := by decide +kernel
theorem dX9_init_67 : decode cX9_init 67 = .ok (.aload_n 0, 1) := by decide +kernel
theorem dX9_init_68 : decode cX9_init 68 = .ok (.bipush 24, 2) := by decide +kernel
theorem dX9_init_70 : decode cX9_init 70 = .ok (.newarray .boolean, 2) := by decide +kernel
theorem dX9_init_72 : decode cX9_init 72 = .ok (.putfield 34, 3) := by decide +kernel
theorem dX9_init_75 : decode cX9_init 75 = .ok (.aload_n 0, 1) := by decide +kernel
theorem dX9_init_76 : decode cX9_init 76 = .ok (.bipush 24, 2) := by decide +kernel
theorem dX9_init_78 : decode cX9_init 78 = .ok (.newarray .int, 2) := by decide +kernel
theorem dX9_init_80 : decode cX9_init 80 = .ok (.putfield 38, 3) := by decide +kernel
theorem dX9_init_83 : decode cX9_init 83 = .ok (.aload_n 0, 1) := by decide +kernel
theorem dX9_init_84 : decode cX9_init 84 = .ok (.bipush 24, 2) := by decide +kernel
theorem dX9_init_86 : decode cX9_init 86 = .ok (.newarray .int, 2) := by decide +kernel
theorem dX9_init_88 : decode cX9_init 88 = .ok (.putfield 41, 3) := by decide +kernel
theorem dX9_init_91 : decode cX9_init 91 = .ok (.aload_n 0, 1) := by decide +kernel
theorem dX9_init_92 : decode cX9_init 92 = .ok (.bipush 24, 2) := by decide +kernel
theorem dX9_init_94 : decode cX9_init 94 = .ok (.newarray .int, 2) := by decide +kernel
theorem dX9_init_96 : decode cX9_init 96 = .ok (.putfield 44, 3) := by decide +kernel
theorem dX9_init_99 : decode cX9_init 99 = .ok (.aload_n 0, 1) := by decide +kernel
theorem dX9_init_100 : decode cX9_init 100 = .ok (.bipush 48, 2) := by decide +kernel
theorem dX9_init_102 : decode cX9_init 102 = .ok (.newarray .int, 2) := by decide +kernel
theorem dX9_init_104 : decode cX9_init 104 = .ok (.putfield 47, 3) := by decide +kernel
theorem dX9_init_107 : decode cX9_init 107 = .ok (.aload_n 0, 1) := by decide +kernel
theorem dX9_init_108 : decode cX9_init 108 = .ok (.bipush 16, 2) := by decide +kernel
theorem dX9_init_110 : decode cX9_init 110 = .ok (.newarray .int, 2) := by decide +kernel
theorem dX9_init_112 : decode cX9_init 112 = .ok (.putfield 50, 3) := by decide +kernel
theorem dX9_init_115 : decode cX9_init 115 = .ok (.aload_n 0, 1) := by decide +kernel
theorem dX9_init_116 : decode cX9_init 116 = .ok (.bipush 50, 2) := by decide +kernel
theorem dX9_init_118 : decode cX9_init 118 = .ok (.newarray .int, 2) := by decide +kernel
theorem dX9_init_120 : decode cX9_init 120 = .ok (.putfield 53, 3) := by decide +kernel
theorem dX9_init_123 : decode cX9_init 123 = .ok (.aload_n 0, 1) := by decide +kernel
theorem dX9_init_124 : decode cX9_init 124 = .ok (.bipush 50, 2) := by decide +kernel
theorem dX9_init_126 : decode cX9_init 126 = .ok (.newarray .int, 2) := by decide +kernel
theorem dX9_init_128 : decode cX9_init 128 = .ok (.putfield 56, 3) := by decide +kernel
theorem dX9_init_131 : decode cX9_init 131 = .ok (.aload_n 0, 1) := by decide +kernel
theorem dX9_init_132 : decode cX9_init 132 = .ok (.bipush 50, 2) := by decide +kernel
theorem dX9_init_134 : decode cX9_init 134 = .ok (.newarray .int, 2) := by decide +kernel
theorem dX9_init_136 : decode cX9_init 136 = .ok (.putfield 59, 3) := by decide +kernel
theorem dX9_init_139 : decode cX9_init 139 = .ok (.aload_n 0, 1) := by decide +kernel
theorem dX9_init_140 : decode cX9_init 140 = .ok (.sipush 150, 3) := by decide +kernel
theorem dX9_init_143 : decode cX9_init 143 = .ok (.newarray .int, 2) := by decide +kernel
theorem dX9_init_145 : decode cX9_init 145 = .ok (.putfield 62, 3) := by decide +kernel
theorem dX9_init_148 : decode cX9_init 148 = .ok (.aload_n 0, 1) := by decide +kernel
theorem dX9_init_149 : decode cX9_init 149 = .ok (.sipush 800, 3) := by decide +kernel
theorem dX9_init_152 : decode cX9_init 152 = .ok (.newarray .int, 2) := by decide +kernel
theorem dX9_init_154 : decode cX9_init 154 = .ok (.putfield 65, 3) := by decide +kernel
theorem dX9_init_157 : decode cX9_init 157 = .ok (.aload_n 0, 1) := by decide +kernel
theorem dX9_init_158 : decode cX9_init 158 = .ok (.sipush 650, 3) := by decide +kernel
theorem dX9_init_161 : decode cX9_init 161 = .ok (.newarray .int, 2) := by decide +kernel
theorem dX9_init_163 : decode cX9_init 163 = .ok (.putfield 68, 3) := by decide +kernel
theorem dX9_init_166 : decode cX9_init 166 = .ok (.return_, 1) := by decide +kernel
theorem dX9_thrown_0 : decode cX9_thrown 0 = .ok (.aload_n 0, 1) := by decide +kernel
theorem dX9_thrown_1 : decode cX9_thrown 1 = .ok (.getfield 71, 3) := by decide +kernel
theorem dX9_thrown_4 : decode cX9_thrown 4 = .ok (.ireturn, 1) := by decide +kernel
theorem dX9_no_0 : decode cX9_no 0 = .ok (.aload_n 0, 1) := by decide +kernel
theorem dX9_no_1 : decode cX9_no 1 = .ok (.iload_n 1, 1) := by decide +kernel
theorem dX9_no_2 : decode cX9_no 2 = .ok (.putfield 71, 3) := by decide +kernel
theorem dX9_no_5 : decode cX9_no 5 = .ok (.iconst 0, 1) := by decide +kernel
theorem dX9_no_6 : decode cX9_no 6 = .ok (.ireturn, 1) := by decide +kernel
theorem dX9_isIn_0 : decode cX9_isIn 0 = .ok (.iload_n 0, 1) := by decide +kernel
theorem dX9_isIn_1 : decode cX9_isIn 1 = .ok (.iload_n 1, 1) := by decide +kernel
theorem dX9_isIn_2 : decode cX9_isIn 2 = .ok (.if_icmp .lt 12, 3) := by decide +kernel
theorem dX9_isIn_5 : decode cX9_isIn 5 = .ok (.iload_n 0, 1) := by decide +kernel
theorem dX9_isIn_6 : decode cX9_isIn 6 = .ok (.iload_n 2, 1) := by decide +kernel
theorem dX9_isIn_7 : decode cX9_isIn 7 = .ok (.if_icmp .gt 7, 3) := by decide +kernel
theorem dX9_isIn_10 : decode cX9_isIn 10 = .ok (.iconst 1, 1) := by decide +kernel
theorem dX9_isIn_11 : decode cX9_isIn 11 = .ok (.goto 4, 3) := by decide +kernel
theorem dX9_isIn_14 : decode cX9_isIn 14 = .ok (.iconst 0, 1) := by decide +kernel
theorem dX9_isIn_15 : decode cX9_isIn 15 = .ok (.ireturn, 1) := by decide +kernel
theorem dX9_has_0 : decode cX9_has 0 = .ok (.iload_n 0, 1) := by decide +kernel
theorem dX9_has_1 : decode cX9_has 1 = .ok (.iload_n 1, 1) := by decide +kernel
theorem dX9_has_2 : decode cX9_has 2 = .ok (.ishr, 1) := by decide +kernel
theorem dX9_has_3 : decode cX9_has 3 = .ok (.iconst 1, 1) := by decide +kernel
theorem dX9_has_4 : decode cX9_has 4 = .ok (.iand, 1) := by decide +kernel
theorem dX9_has_5 : decode cX9_has 5 = .ok (.iconst 1, 1) := by decide +kernel
theorem dX9_has_6 : decode cX9_has 6 = .ok (.if_icmp .ne 7, 3) := by decide +kernel
theorem dX9_has_9 : decode cX9_has 9 = .ok (.iconst 1, 1) := by decide +kernel
theorem dX9_has_10 : decode cX9_has 10 = .ok (.goto 4, 3) := by decide +kernel
theorem dX9_has_13 : decode cX9_has 13 = .ok (.iconst 0, 1) := by decide +kernel
theorem dX9_has_14 : decode cX9_has 14 = .ok (.ireturn, 1) := by decide +kernel
set_option maxRecDepth 20000 in
theorem ggX9_isCondition_X9_isIn : GoodIn wsX9_isCondition wsX9_isIn := goodIn_r _ [4] (by decide +kernel) (by decide +kernel)
set_option maxRecDepth 20000 in
theorem gX9_isCondition_X9_isIn : GoodIn wsX9_isCondition (va_wsS RX9 75 yX9_isIn wsX9_isIn) := goodIn_app (goodIn_of _ (by decide +kernel)) ggX9_isCondition_X9_isIn
theorem dX9_isCondition_0 : decode cX9_isCondition 0 = .ok (.iload_n 0, 1) := by decide +kernel
theorem dX9_isCondition_1 : decode cX9_isCondition 1 = .ok (.iconst 0, 1) := by decide +kernel
theorem dX9_isCondition_2 : decode cX9_isCondition 2 = .ok (.bipush 15, 2) := by decide +kernel
theorem dX9_isCondition_4 : decode cX9_isCondition 4 = .ok (.invokestatic 75, 3) := by decide +kernel
theorem dX9_isCondition_7 : decode cX9_isCondition 7 = .ok (.ifCond .eq 23, 3) := by decide +kernel
theorem dX9_isCondition_10 : decode cX9_isCondition 10 = .ok (.iload_n 1, 1) := by decide +kernel
theorem dX9_isCondition_11 : decode cX9_isCondition 11 = .ok (.iconst 0, 1) := by decide +kernel
theorem dX9_isCondition_12 : decode cX9_isCondition 12 = .ok (.bipush 15, 2) := by decide +kernel
theorem dX9_isCondition_14 : decode cX9_isCondition 14 = .ok (.invokestatic 75, 3) := by decide +kernel
theorem dX9_isCondition_17 : decode cX9_isCondition 17 = .ok (.ifCond .eq 13, 3) := by decide +kernel
theorem dX9_isCondition_20 : decode cX9_isCondition 20 = .ok (.iload_n 0, 1) := by decide +kernel
theorem dX9_isCondition_21 : decode cX9_isCondition 21 = .ok (.iload_n 1, 1) := by decide +kernel
theorem dX9_isCondition_22 : decode cX9_isCondition 22 = .ok (.iand, 1) := by decide +kernel
theorem dX9_isCondition_23 : decode cX9_isCondition 23 = .ok (.ifCond .ne 7, 3) := by decide +kernel
theorem dX9_isCondition_26 : decode cX9_isCondition 26 = .ok (.iconst 1, 1) := by decide +kernel
theorem dX9_isCondition_27 : decode cX9_isCondition 27 = .ok (.goto 4, 3) := by decide +kernel
theorem dX9_isCondition_30 : decode cX9_isCondition 30 = .ok (.iconst 0, 1) := by decide +kernel
theorem dX9_isCondition_31 : decode cX9_isCondition 31 = .ok (.ireturn, 1) := by decide +kernel
set_option maxRecDepth 20000 in
theorem ggX9_isElement_X9_isIn : GoodIn wsX9_isElement wsX9_isIn := goodIn_r _ [5] (by decide +kernel) (by decide +kernel)
set_option maxRecDepth 20000 in
theorem gX9_isElement_X9_isIn : GoodIn wsX9_isElement (va_wsS RX9 75 yX9_isIn wsX9_isIn) := goodIn_app (goodIn_of _ (by decide +kernel)) ggX9_isElement_X9_isIn
theorem dX9_isElement_0 : decode cX9_isElement 0 = .ok (.iload_n 1, 1) := by decide +kernel
theorem dX9_isElement_1 : decode cX9_isElement 1 = .ok (.iconst 0, 1) := by decide +kernel
theorem dX9_isElement_2 : decode cX9_isElement 2 = .ok (.iconst 3, 1) := by decide +kernel
theorem dX9_isElement_3 : decode cX9_isElement 3 = .ok (.invokestatic 75, 3) := by decide +kernel
theorem dX9_isElement_6 : decode cX9_isElement 6 = .ok (.ifCond .eq 23, 3) := by decide +kernel
theorem dX9_isElement_9 : decode cX9_isElement 9 = .ok (.iload_n 2, 1) := by decide +kernel
theorem dX9_isElement_10 : decode cX9_isElement 10 = .ok (.iconst 0, 1) := by decide +kernel
theorem dX9_isElement_11 : decode cX9_isElement 11 = .ok (.aload_n 0, 1) := by decide +kernel
theorem dX9_isElement_12 : decode cX9_isElement 12 = .ok (.getfield 19, 3) := by decide +kernel
theorem dX9_isElement_15 : decode cX9_isElement 15 = .ok (.iload_n 1, 1) := by decide +kernel
theorem dX9_isElement_16 : decode cX9_isElement 16 = .ok (.iaload, 1) := by decide +kernel
theorem dX9_isElement_17 : decode cX9_isElement 17 = .ok (.iconst 1, 1) := by decide +kernel
theorem dX9_isElement_18 : decode cX9_isElement 18 = .ok (.isub, 1) := by decide +kernel
theorem dX9_isElement_19 : decode cX9_isElement 19 = .ok (.invokestatic 75, 3) := by decide +kernel
theorem dX9_isElement_22 : decode cX9_isElement 22 = .ok (.ifCond .eq 7, 3) := by decide +kernel
theorem dX9_isElement_25 : decode cX9_isElement 25 = .ok (.iconst 1, 1) := by decide +kernel
theorem dX9_isElement_26 : decode cX9_isElement 26 = .ok (.goto 4, 3) := by decide +kernel
theorem dX9_isElement_29 : decode cX9_isElement 29 = .ok (.iconst 0, 1) := by decide +kernel
theorem dX9_isElement_30 : decode cX9_isElement 30 = .ok (.ireturn, 1) := by decide +kernel
set_option maxRecDepth 20000 in
theorem ggX9_isType_X9_isElement : GoodIn wsX9_isType wsX9_isElement := goodIn_r _ [5, 6, 7, 8, 4, 9, 10, 11, 12, 13, 14, 15, 16, 17, 18, 19, 20, 21, 22, 23, 24, 25, 26, 27, 28, 29, 30, 31, 32, 33] (by decide +kernel) (by decide +kernel)
set_option maxRecDepth 20000 in
theorem gX9_isType_X9_isElement : GoodIn wsX9_isType (wsV RX9 79 RX9 yX9_isElement wsX9_isElement) := goodIn_app (goodIn_of _ (by decide +kernel)) ggX9_isType_X9_isElement
theorem dX9_isType_0 : decode cX9_isType 0 = .ok (.iload_n 1, 1) := by decide +kernel
theorem dX9_isType_1 : decode cX9_isType 1 = .ok (.bipush 8, 2) := by decide +kernel
theorem dX9_isType_3 : decode cX9_isType 3 = .ok (.if_icmp .eq 12, 3) := by decide +kernel
theorem dX9_isType_6 : decode cX9_isType 6 = .ok (.aload_n 0, 1) := by decide +kernel
theorem dX9_isType_7 : decode cX9_isType 7 = .ok (.iconst 0, 1) := by decide +kernel
theorem dX9_isType_8 : decode cX9_isType 8 = .ok (.iload_n 1, 1) := by decide +kernel
theorem dX9_isType_9 : decode cX9_isType 9 = .ok (.invokevirtual 79, 3) := by decide +kernel
theorem dX9_isType_12 : decode cX9_isType 12 = .ok (.ifCond .eq 7, 3) := by decide +kernel
theorem dX9_isType_15 : decode cX9_isType 15 = .ok (.iconst 1, 1) := by decide +kernel
theorem dX9_isType_16 : decode cX9_isType 16 = .ok (.goto 4, 3) := by decide +kernel
theorem dX9_isType_19 : decode cX9_isType 19 = .ok (.iconst 0, 1) := by decide +kernel
theorem dX9_isType_20 : decode cX9_isType 20 = .ok (.ireturn, 1) := by decide +kernel
set_option maxRecDepth 20000 in
theorem ggX9_isMethod_X9_isElement : GoodIn wsX9_isMethod wsX9_isElement := goodIn_r _ [6, 7, 8, 9, 5, 10, 11, 12, 13, 14, 15, 16, 17, 18, 19, 20, 21, 22, 23, 24, 25, 26, 27, 28, 29, 30, 31, 32, 33, 34] (by decide +kernel) (by decide +kernel)
set_option maxRecDepth 20000 in
theorem gX9_isMethod_X9_isElement : GoodIn wsX9_isMethod (wsV RX9 79 RX9 yX9_isElement wsX9_isElement) := goodIn_app (goodIn_of _ (by decide +kernel)) ggX9_isMethod_X9_isElement
theorem dX9_isMethod_0 : decode cX9_isMethod 0 = .ok (.aload_n 0, 1) := by decide +kernel
theorem dX9_isMethod_1 : decode cX9_isMethod 1 = .ok (.iconst 2, 1) := by decide +kernel
theorem dX9_isMethod_2 : decode cX9_isMethod 2 = .ok (.iload_n 1, 1) := by decide +kernel
theorem dX9_isMethod_3 : decode cX9_isMethod 3 = .ok (.invokevirtual 79, 3) := by decide +kernel
theorem dX9_isMethod_6 : decode cX9_isMethod 6 = .ok (.ifCond .eq 16, 3) := by decide +kernel
theorem dX9_isMethod_9 : decode cX9_isMethod 9 = .ok (.aload_n 0, 1) := by decide +kernel
theorem dX9_isMethod_10 : decode cX9_isMethod 10 = .ok (.getfield 34, 3) := by decide +kernel
theorem dX9_isMethod_13 : decode cX9_isMethod 13 = .ok (.iload_n 1, 1) := by decide +kernel
theorem dX9_isMethod_14 : decode cX9_isMethod 14 = .ok (.baload, 1) := by decide +kernel
theorem dX9_isMethod_15 : decode cX9_isMethod 15 = .ok (.ifCond .eq 7, 3) := by decide +kernel
theorem dX9_isMethod_18 : decode cX9_isMethod 18 = .ok (.iconst 1, 1) := by decide +kernel
theorem dX9_isMethod_19 : decode cX9_isMethod 19 = .ok (.goto 4, 3) := by decide +kernel
theorem dX9_isMethod_22 : decode cX9_isMethod 22 = .ok (.iconst 0, 1) := by decide +kernel
theorem dX9_isMethod_23 : decode cX9_isMethod 23 = .ok (.ireturn, 1) := by decide +kernel
set_option maxRecDepth 20000 in
theorem ggX9_isExpression_X9_isIn : GoodIn wsX9_isExpression wsX9_isIn := goodIn_r _ [5] (by decide +kernel) (by decide +kernel)
set_option maxRecDepth 20000 in
theorem gX9_isExpression_X9_isIn : GoodIn wsX9_isExpression (va_wsS RX9 75 yX9_isIn wsX9_isIn) := goodIn_app (goodIn_of _ (by decide +kernel)) ggX9_isExpression_X9_isIn
theorem dX9_isExpression_0 : decode cX9_isExpression 0 = .ok (.iload_n 1, 1) := by decide +kernel
theorem dX9_isExpression_1 : decode cX9_isExpression 1 = .ok (.iconst 0, 1) := by decide +kernel
theorem dX9_isExpression_2 : decode cX9_isExpression 2 = .ok (.aload_n 0, 1) := by decide +kernel
theorem dX9_isExpression_3 : decode cX9_isExpression 3 = .ok (.getfield 83, 3) := by decide +kernel
theorem dX9_isExpression_6 : decode cX9_isExpression 6 = .ok (.iconst 1, 1) := by decide +kernel
theorem dX9_isExpression_7 : decode cX9_isExpression 7 = .ok (.isub, 1) := by decide +kernel
theorem dX9_isExpression_8 : decode cX9_isExpression 8 = .ok (.invokestatic 75, 3) := by decide +kernel
theorem dX9_isExpression_11 : decode cX9_isExpression 11 = .ok (.ireturn, 1) := by decide +kernel
set_option maxRecDepth 20000 in
theorem ggX9_isName_X9_isIn : GoodIn wsX9_isName wsX9_isIn := goodIn_r _ [4] (by decide +kernel) (by decide +kernel)
set_option maxRecDepth 20000 in
theorem gX9_isName_X9_isIn : GoodIn wsX9_isName (va_wsS RX9 75 yX9_isIn wsX9_isIn) := goodIn_app (goodIn_of _ (by decide +kernel)) ggX9_isName_X9_isIn
theorem dX9_isName_0 : decode cX9_isName 0 = .ok (.iload_n 0, 1) := by decide +kernel
theorem dX9_isName_1 : decode cX9_isName 1 = .ok (.iconst 0, 1) := by decide +kernel
theorem dX9_isName_2 : decode cX9_isName 2 = .ok (.bipush 9, 2) := by decide +kernel
theorem dX9_isName_4 : decode cX9_isName 4 = .ok (.invokestatic 75, 3) := by decide +kernel
theorem dX9_isName_7 : decode cX9_isName 7 = .ok (.ireturn, 1) := by decide +kernel
set_option maxRecDepth 20000 in
theorem ggX9_addRule_X9_isIn : GoodIn wsX9_addRule wsX9_isIn := goodIn_r _ [10] (by decide +kernel) (by decide +kernel)
set_option maxRecDepth 20000 in
theorem gX9_addRule_X9_isIn : GoodIn wsX9_addRule (va_wsS RX9 75 yX9_isIn wsX9_isIn) := goodIn_app (goodIn_of _ (by decide +kernel)) ggX9_addRule_X9_isIn
set_option maxRecDepth 20000 in
theorem ggX9_addRule_X9_no : GoodIn wsX9_addRule wsX9_no := goodIn_r _ [14, 1, 15, 16, 17, 18, 19, 20, 21, 22, 23, 24, 25, 26, 27, 28, 29, 30, 31, 32, 33, 34, 35, 36, 37, 38] (by decide +kernel) (by decide +kernel)
set_option maxRecDepth 20000 in
theorem gX9_addRule_X9_no : GoodIn wsX9_addRule (wsV RX9 86 RX9 yX9_no wsX9_no) := goodIn_app (goodIn_of _ (by decide +kernel)) ggX9_addRule_X9_no
theorem dX9_addRule_0 : decode cX9_addRule 0 = .ok (.aload_n 0, 1) := by decide +kernel
theorem dX9_addRule_1 : decode cX9_addRule 1 = .ok (.iconst 0, 1) := by decide +kernel
theorem dX9_addRule_2 : decode cX9_addRule 2 = .ok (.putfield 71, 3) := by decide +kernel
theorem dX9_addRule_5 : decode cX9_addRule 5 = .ok (.iload_n 1, 1) := by decide +kernel
theorem dX9_addRule_6 : decode cX9_addRule 6 = .ok (.iconst 0, 1) := by decide +kernel
theorem dX9_addRule_7 : decode cX9_addRule 7 = .ok (.iconst 1, 1) := by decide +kernel
theorem dX9_addRule_8 : decode cX9_addRule 8 = .ok (.invokestatic 75, 3) := by decide +kernel
theorem dX9_addRule_11 : decode cX9_addRule 11 = .ok (.ifCond .eq 21, 3) := by decide +kernel
theorem dX9_addRule_14 : decode cX9_addRule 14 = .ok (.iload_n 2, 1) := by decide +kernel
theorem dX9_addRule_15 : decode cX9_addRule 15 = .ok (.iconst 0, 1) := by decide +kernel
theorem dX9_addRule_16 : decode cX9_addRule 16 = .ok (.iconst 3, 1) := by decide +kernel
theorem dX9_addRule_17 : decode cX9_addRule 17 = .ok (.invokestatic 75, 3) := by decide +kernel
theorem dX9_addRule_20 : decode cX9_addRule 20 = .ok (.ifCond .eq 12, 3) := by decide +kernel
theorem dX9_addRule_23 : decode cX9_addRule 23 = .ok (.iload_n 3, 1) := by decide +kernel
theorem dX9_addRule_24 : decode cX9_addRule 24 = .ok (.iconst 0, 1) := by decide +kernel
theorem dX9_addRule_25 : decode cX9_addRule 25 = .ok (.iconst 3, 1) := by decide +kernel
theorem dX9_addRule_26 : decode cX9_addRule 26 = .ok (.invokestatic 75, 3) := by decide +kernel
theorem dX9_addRule_29 : decode cX9_addRule 29 = .ok (.ifCond .ne 9, 3) := by decide +kernel
theorem dX9_addRule_32 : decode cX9_addRule 32 = .ok (.aload_n 0, 1) := by decide +kernel
theorem dX9_addRule_33 : decode cX9_addRule 33 = .ok (.iconst 1, 1) := by decide +kernel
theorem dX9_addRule_34 : decode cX9_addRule 34 = .ok (.invokevirtual 86, 3) := by decide +kernel
theorem dX9_addRule_37 : decode cX9_addRule 37 = .ok (.ireturn, 1) := by decide +kernel
theorem dX9_addRule_38 : decode cX9_addRule 38 = .ok (.aload_n 0, 1) := by decide +kernel
theorem dX9_addRule_39 : decode cX9_addRule 39 = .ok (.getfield 90, 3) := by decide +kernel
theorem dX9_addRule_42 : decode cX9_addRule 42 = .ok (.bipush 8, 2) := by decide +kernel
theorem dX9_addRule_44 : decode cX9_addRule 44 = .ok (.if_icmp .ne 9, 3) := by decide +kernel
theorem dX9_addRule_47 : decode cX9_addRule 47 = .ok (.aload_n 0, 1) := by decide +kernel
theorem dX9_addRule_48 : decode cX9_addRule 48 = .ok (.iconst 2, 1) := by decide +kernel
theorem dX9_addRule_49 : decode cX9_addRule 49 = .ok (.invokevirtual 86, 3) := by decide +kernel
theorem dX9_addRule_52 : decode cX9_addRule 52 = .ok (.ireturn, 1) := by decide +kernel
theorem dX9_addRule_53 : decode cX9_addRule 53 = .ok (.aload_n 0, 1) := by decide +kernel
theorem dX9_addRule_54 : decode cX9_addRule 54 = .ok (.getfield 9, 3) := by decide +kernel
theorem dX9_addRule_57 : decode cX9_addRule 57 = .ok (.aload_n 0, 1) := by decide +kernel
theorem dX9_addRule_58 : decode cX9_addRule 58 = .ok (.getfield 90, 3) := by decide +kernel
theorem dX9_addRule_61 : decode cX9_addRule 61 = .ok (.iload_n 1, 1) := by decide +kernel
theorem dX9_addRule_62 : decode cX9_addRule 62 = .ok (.iastore, 1) := by decide +kernel
theorem dX9_addRule_63 : decode cX9_addRule 63 = .ok (.aload_n 0, 1) := by decide +kernel
theorem dX9_addRule_64 : decode cX9_addRule 64 = .ok (.getfield 13, 3) := by decide +kernel
theorem dX9_addRule_67 : decode cX9_addRule 67 = .ok (.aload_n 0, 1) := by decide +kernel
theorem dX9_addRule_68 : decode cX9_addRule 68 = .ok (.getfield 90, 3) := by decide +kernel
theorem dX9_addRule_71 : decode cX9_addRule 71 = .ok (.iload_n 2, 1) := by decide +kernel
theorem dX9_addRule_72 : decode cX9_addRule 72 = .ok (.iastore, 1) := by decide +kernel
theorem dX9_addRule_73 : decode cX9_addRule 73 = .ok (.aload_n 0, 1) := by decide +kernel
theorem dX9_addRule_74 : decode cX9_addRule 74 = .ok (.getfield 16, 3) := by decide +kernel
theorem dX9_addRule_77 : decode cX9_addRule 77 = .ok (.aload_n 0, 1) := by decide +kernel
theorem dX9_addRule_78 : decode cX9_addRule 78 = .ok (.getfield 90, 3) := by decide +kernel
theorem dX9_addRule_81 : decode cX9_addRule 81 = .ok (.iload_n 3, 1) := by decide +kernel
theorem dX9_addRule_82 : decode cX9_addRule 82 = .ok (.iastore, 1) := by decide +kernel
theorem dX9_addRule_83 : decode cX9_addRule 83 = .ok (.aload_n 0, 1) := by decide +kernel
theorem dX9_addRule_84 : decode cX9_addRule 84 = .ok (.dup, 1) := by decide +kernel
theorem dX9_addRule_85 : decode cX9_addRule 85 = .ok (.getfield 90, 3) := by decide +kernel
theorem dX9_addRule_88 : decode cX9_addRule 88 = .ok (.iconst 1, 1) := by decide +kernel
theorem dX9_addRule_89 : decode cX9_addRule 89 = .ok (.iadd, 1) := by decide +kernel
theorem dX9_addRule_90 : decode cX9_addRule 90 = .ok (.putfield 90, 3) := by decide +kernel
theorem dX9_addRule_93 : decode cX9_addRule 93 = .ok (.aload_n 0, 1) := by decide +kernel
theorem dX9_addRule_94 : decode cX9_addRule 94 = .ok (.iconst 0, 1) := by decide +kernel
theorem dX9_addRule_95 : decode cX9_addRule 95 = .ok (.putfield 93, 3) := by decide +kernel
theorem dX9_addRule_98 : decode cX9_addRule 98 = .ok (.aload_n 0, 1) := by decide +kernel
theorem dX9_addRule_99 : decode cX9_addRule 99 = .ok (.getfield 90, 3) := by decide +kernel
theorem dX9_addRule_102 : decode cX9_addRule 102 = .ok (.ireturn, 1) := by decide +kernel
set_option maxRecDepth 20000 in
theorem ggX9_dropRule_X9_no : GoodIn wsX9_dropRule wsX9_no := goodIn_r _ [8, 1, 9, 10, 11, 12, 13, 14, 15, 16, 17, 18, 19, 20, 21, 22, 23, 24, 25, 26, 27, 28, 29, 30, 31, 32] (by decide +kernel) (by decide +kernel)
set_option maxRecDepth 20000 in
theorem gX9_dropRule_X9_no : GoodIn wsX9_dropRule (wsV RX9 86 RX9 yX9_no wsX9_no) := goodIn_app (goodIn_of _ (by decide +kernel)) ggX9_dropRule_X9_no
theorem dX9_dropRule_0 : decode cX9_dropRule 0 = .ok (.aload_n 0, 1) := by decide +kernel
theorem dX9_dropRule_1 : decode cX9_dropRule 1 = .ok (.iconst 0, 1) := by decide +kernel
theorem dX9_dropRule_2 : decode cX9_dropRule 2 = .ok (.putfield 71, 3) := by decide +kernel
theorem dX9_dropRule_5 : decode cX9_dropRule 5 = .ok (.aload_n 0, 1) := by decide +kernel
theorem dX9_dropRule_6 : decode cX9_dropRule 6 = .ok (.getfield 90, 3) := by decide +kernel
theorem dX9_dropRule_9 : decode cX9_dropRule 9 = .ok (.ifCond .ne 9, 3) := by decide +kernel
theorem dX9_dropRule_12 : decode cX9_dropRule 12 = .ok (.aload_n 0, 1) := by decide +kernel
theorem dX9_dropRule_13 : decode cX9_dropRule 13 = .ok (.iconst 1, 1) := by decide +kernel
theorem dX9_dropRule_14 : decode cX9_dropRule 14 = .ok (.invokevirtual 86, 3) := by decide +kernel
theorem dX9_dropRule_17 : decode cX9_dropRule 17 = .ok (.ireturn, 1) := by decide +kernel
theorem dX9_dropRule_18 : decode cX9_dropRule 18 = .ok (.aload_n 0, 1) := by decide +kernel
theorem dX9_dropRule_19 : decode cX9_dropRule 19 = .ok (.dup, 1) := by decide +kernel
theorem dX9_dropRule_20 : decode cX9_dropRule 20 = .ok (.getfield 90, 3) := by decide +kernel
theorem dX9_dropRule_23 : decode cX9_dropRule 23 = .ok (.iconst 1, 1) := by decide +kernel
theorem dX9_dropRule_24 : decode cX9_dropRule 24 = .ok (.isub, 1) := by decide +kernel
theorem dX9_dropRule_25 : decode cX9_dropRule 25 = .ok (.putfield 90, 3) := by decide +kernel
theorem dX9_dropRule_28 : decode cX9_dropRule 28 = .ok (.aload_n 0, 1) := by decide +kernel
theorem dX9_dropRule_29 : decode cX9_dropRule 29 = .ok (.iconst 0, 1) := by decide +kernel
theorem dX9_dropRule_30 : decode cX9_dropRule 30 = .ok (.putfield 93, 3) := by decide +kernel
theorem dX9_dropRule_33 : decode cX9_dropRule 33 = .ok (.aload_n 0, 1) := by decide +kernel
theorem dX9_dropRule_34 : decode cX9_dropRule 34 = .ok (.getfield 90, 3) := by decide +kernel
theorem dX9_dropRule_37 : decode cX9_dropRule 37 = .ok (.ireturn, 1) := by decide +kernel
set_option maxRecDepth 20000 in
theorem ggX9_isProduct_X9_isIn : GoodIn wsX9_isProduct wsX9_isIn := goodIn_r _ [8] (by decide +kernel) (by decide +kernel)
set_option maxRecDepth 20000 in
theorem gX9_isProduct_X9_isIn : GoodIn wsX9_isProduct (va_wsS RX9 75 yX9_isIn wsX9_isIn) := goodIn_app (goodIn_of _ (by decide +kernel)) ggX9_isProduct_X9_isIn
set_option maxRecDepth 20000 in
theorem ggX9_isProduct_X9_has : GoodIn wsX9_isProduct wsX9_has := goodIn_r _ [11] (by decide +kernel) (by decide +kernel)
set_option maxRecDepth 20000 in
theorem gX9_isProduct_X9_has : GoodIn wsX9_isProduct (va_wsS RX9 97 yX9_has wsX9_has) := goodIn_app (goodIn_of _ (by decide +kernel)) ggX9_isProduct_X9_has
theorem dX9_isProduct_0 : decode cX9_isProduct 0 = .ok (.iload_n 1, 1) := by decide +kernel
theorem dX9_isProduct_1 : decode cX9_isProduct 1 = .ok (.iconst 0, 1) := by decide +kernel
theorem dX9_isProduct_2 : decode cX9_isProduct 2 = .ok (.bipush 15, 2) := by decide +kernel
theorem dX9_isProduct_4 : decode cX9_isProduct 4 = .ok (.invokestatic 75, 3) := by decide +kernel
theorem dX9_isProduct_7 : decode cX9_isProduct 7 = .ok (.istore_n 2, 1) := by decide +kernel
theorem dX9_isProduct_8 : decode cX9_isProduct 8 = .ok (.iconst 0, 1) := by decide +kernel
theorem dX9_isProduct_9 : decode cX9_isProduct 9 = .ok (.istore_n 3, 1) := by decide +kernel
theorem dX9_isProduct_10 : decode cX9_isProduct 10 = .ok (.iload_n 3, 1) := by decide +kernel
theorem dX9_isProduct_11 : decode cX9_isProduct 11 = .ok (.aload_n 0, 1) := by decide +kernel
theorem dX9_isProduct_12 : decode cX9_isProduct 12 = .ok (.getfield 90, 3) := by decide +kernel
theorem dX9_isProduct_15 : decode cX9_isProduct 15 = .ok (.if_icmp .ge 60, 3) := by decide +kernel
theorem dX9_isProduct_18 : decode cX9_isProduct 18 = .ok (.iload_n 2, 1) := by decide +kernel
theorem dX9_isProduct_19 : decode cX9_isProduct 19 = .ok (.ifCond .eq 48, 3) := by decide +kernel
theorem dX9_isProduct_22 : decode cX9_isProduct 22 = .ok (.iload_n 1, 1) := by decide +kernel
theorem dX9_isProduct_23 : decode cX9_isProduct 23 = .ok (.aload_n 0, 1) := by decide +kernel
theorem dX9_isProduct_24 : decode cX9_isProduct 24 = .ok (.getfield 13, 3) := by decide +kernel
theorem dX9_isProduct_27 : decode cX9_isProduct 27 = .ok (.iload_n 3, 1) := by decide +kernel
theorem dX9_isProduct_28 : decode cX9_isProduct 28 = .ok (.iaload, 1) := by decide +kernel
theorem dX9_isProduct_29 : decode cX9_isProduct 29 = .ok (.invokestatic 97, 3) := by decide +kernel
theorem dX9_isProduct_32 : decode cX9_isProduct 32 = .ok (.ifCond .eq 31, 3) := by decide +kernel
theorem dX9_isProduct_35 : decode cX9_isProduct 35 = .ok (.iload_n 1, 1) := by decide +kernel
theorem dX9_isProduct_36 : decode cX9_isProduct 36 = .ok (.aload_n 0, 1) := by decide +kernel
theorem dX9_isProduct_37 : decode cX9_isProduct 37 = .ok (.getfield 16, 3) := by decide +kernel
theorem dX9_isProduct_40 : decode cX9_isProduct 40 = .ok (.iload_n 3, 1) := by decide +kernel
theorem dX9_isProduct_41 : decode cX9_isProduct 41 = .ok (.iaload, 1) := by decide +kernel
theorem dX9_isProduct_42 : decode cX9_isProduct 42 = .ok (.invokestatic 97, 3) := by decide +kernel
theorem dX9_isProduct_45 : decode cX9_isProduct 45 = .ok (.aload_n 0, 1) := by decide +kernel
theorem dX9_isProduct_46 : decode cX9_isProduct 46 = .ok (.getfield 9, 3) := by decide +kernel
theorem dX9_isProduct_49 : decode cX9_isProduct 49 = .ok (.iload_n 3, 1) := by decide +kernel
theorem dX9_isProduct_50 : decode cX9_isProduct 50 = .ok (.iaload, 1) := by decide +kernel
theorem dX9_isProduct_51 : decode cX9_isProduct 51 = .ok (.iconst 1, 1) := by decide +kernel
theorem dX9_isProduct_52 : decode cX9_isProduct 52 = .ok (.if_icmp .ne 7, 3) := by decide +kernel
theorem dX9_isProduct_55 : decode cX9_isProduct 55 = .ok (.iconst 1, 1) := by decide +kernel
theorem dX9_isProduct_56 : decode cX9_isProduct 56 = .ok (.goto 4, 3) := by decide +kernel
theorem dX9_isProduct_59 : decode cX9_isProduct 59 = .ok (.iconst 0, 1) := by decide +kernel
theorem dX9_isProduct_60 : decode cX9_isProduct 60 = .ok (.if_icmp .eq 7, 3) := by decide +kernel
theorem dX9_isProduct_63 : decode cX9_isProduct 63 = .ok (.iconst 1, 1) := by decide +kernel
theorem dX9_isProduct_64 : decode cX9_isProduct 64 = .ok (.goto 4, 3) := by decide +kernel
theorem dX9_isProduct_67 : decode cX9_isProduct 67 = .ok (.iconst 0, 1) := by decide +kernel
theorem dX9_isProduct_68 : decode cX9_isProduct 68 = .ok (.istore_n 2, 1) := by decide +kernel
theorem dX9_isProduct_69 : decode cX9_isProduct 69 = .ok (.iinc 3 1, 3) := by decide +kernel
theorem dX9_isProduct_72 : decode cX9_isProduct 72 = .ok (.goto (-62), 3) := by decide +kernel
theorem dX9_isProduct_75 : decode cX9_isProduct 75 = .ok (.iload_n 2, 1) := by decide +kernel
theorem dX9_isProduct_76 : decode cX9_isProduct 76 = .ok (.ireturn, 1) := by decide +kernel
set_option maxRecDepth 20000 in
theorem ggX9_allProducts_X9_isProduct : GoodIn wsX9_allProducts wsX9_isProduct := goodIn_r _ [5, 6, 7, 8, 9, 10, 11, 4, 12, 13, 14, 15, 16, 17, 18, 19, 20, 21, 22, 23, 24, 25, 26, 27, 28, 29, 30, 31, 32, 33, 34, 35, 36, 37, 38, 39] (by decide +kernel) (by decide +kernel)
set_option maxRecDepth 20000 in
theorem gX9_allProducts_X9_isProduct : GoodIn wsX9_allProducts (wsV RX9 100 RX9 yX9_isProduct wsX9_isProduct) := goodIn_app (goodIn_of _ (by decide +kernel)) ggX9_allProducts_X9_isProduct
theorem dX9_allProducts_0 : decode cX9_allProducts 0 = .ok (.iconst 0, 1) := by decide +kernel
theorem dX9_allProducts_1 : decode cX9_allProducts 1 = .ok (.istore_n 1, 1) := by decide +kernel
theorem dX9_allProducts_2 : decode cX9_allProducts 2 = .ok (.iconst 0, 1) := by decide +kernel
theorem dX9_allProducts_3 : decode cX9_allProducts 3 = .ok (.istore_n 2, 1) := by decide +kernel
theorem dX9_allProducts_4 : decode cX9_allProducts 4 = .ok (.iload_n 2, 1) := by decide +kernel
theorem dX9_allProducts_5 : decode cX9_allProducts 5 = .ok (.bipush 16, 2) := by decide +kernel
theorem dX9_allProducts_7 : decode cX9_allProducts 7 = .ok (.if_icmp .ge 23, 3) := by decide +kernel
theorem dX9_allProducts_10 : decode cX9_allProducts 10 = .ok (.aload_n 0, 1) := by decide +kernel
theorem dX9_allProducts_11 : decode cX9_allProducts 11 = .ok (.iload_n 2, 1) := by decide +kernel
theorem dX9_allProducts_12 : decode cX9_allProducts 12 = .ok (.invokevirtual 100, 3) := by decide +kernel
theorem dX9_allProducts_15 : decode cX9_allProducts 15 = .ok (.ifCond .eq 9, 3) := by decide +kernel
theorem dX9_allProducts_18 : decode cX9_allProducts 18 = .ok (.iload_n 1, 1) := by decide +kernel
theorem dX9_allProducts_19 : decode cX9_allProducts 19 = .ok (.iconst 1, 1) := by decide +kernel
theorem dX9_allProducts_20 : decode cX9_allProducts 20 = .ok (.iload_n 2, 1) := by decide +kernel
theorem dX9_allProducts_21 : decode cX9_allProducts 21 = .ok (.ishl, 1) := by decide +kernel
theorem dX9_allProducts_22 : decode cX9_allProducts 22 = .ok (.ior, 1) := by decide +kernel
theorem dX9_allProducts_23 : decode cX9_allProducts 23 = .ok (.istore_n 1, 1) := by decide +kernel
theorem dX9_allProducts_24 : decode cX9_allProducts 24 = .ok (.iinc 2 1, 3) := by decide +kernel
theorem dX9_allProducts_27 : decode cX9_allProducts 27 = .ok (.goto (-23), 3) := by decide +kernel
theorem dX9_allProducts_30 : decode cX9_allProducts 30 = .ok (.iload_n 1, 1) := by decide +kernel
theorem dX9_allProducts_31 : decode cX9_allProducts 31 = .ok (.ireturn, 1) := by decide +kernel
set_option maxRecDepth 20000 in
theorem ggX9_products_X9_allProducts : GoodIn wsX9_products wsX9_allProducts := goodIn_r _ [6, 7, 8, 9, 5, 10, 11, 12, 13, 14, 15, 16, 17, 18, 19, 20, 21, 22, 23, 24, 25, 26, 27, 28, 29, 30, 31, 32, 33, 34, 35, 36, 37, 38, 39, 40, 41, 42, 43, 44] (by decide +kernel) (by decide +kernel)
set_option maxRecDepth 20000 in
theorem gX9_products_X9_allProducts : GoodIn wsX9_products (wsV RX9 104 RX9 yX9_allProducts wsX9_allProducts) := goodIn_app (goodIn_of _ (by decide +kernel)) ggX9_products_X9_allProducts
theorem dX9_products_0 : decode cX9_products 0 = .ok (.aload_n 0, 1) := by decide +kernel
theorem dX9_products_1 : decode cX9_products 1 = .ok (.iconst 0, 1) := by decide +kernel
theorem dX9_products_2 : decode cX9_products 2 = .ok (.putfield 71, 3) := by decide +kernel
theorem dX9_products_5 : decode cX9_products 5 = .ok (.aload_n 0, 1) := by decide +kernel
theorem dX9_products_6 : decode cX9_products 6 = .ok (.invokevirtual 104, 3) := by decide +kernel
theorem dX9_products_9 : decode cX9_products 9 = .ok (.ireturn, 1) := by decide +kernel
theorem dX9_add_0 : decode cX9_add 0 = .ok (.aload_n 0, 1) := by decide +kernel
theorem dX9_add_1 : decode cX9_add 1 = .ok (.getfield 22, 3) := by decide +kernel
theorem dX9_add_4 : decode cX9_add 4 = .ok (.bipush 24, 2) := by decide +kernel
theorem dX9_add_6 : decode cX9_add 6 = .ok (.iload_n 1, 1) := by decide +kernel
theorem dX9_add_7 : decode cX9_add 7 = .ok (.imul, 1) := by decide +kernel
theorem dX9_add_8 : decode cX9_add 8 = .ok (.aload_n 0, 1) := by decide +kernel
theorem dX9_add_9 : decode cX9_add 9 = .ok (.getfield 19, 3) := by decide +kernel
theorem dX9_add_12 : decode cX9_add 12 = .ok (.iload_n 1, 1) := by decide +kernel
theorem dX9_add_13 : decode cX9_add 13 = .ok (.iaload, 1) := by decide +kernel
theorem dX9_add_14 : decode cX9_add 14 = .ok (.iadd, 1) := by decide +kernel
theorem dX9_add_15 : decode cX9_add 15 = .ok (.iload_n 2, 1) := by decide +kernel
theorem dX9_add_16 : decode cX9_add 16 = .ok (.iastore, 1) := by decide +kernel
theorem dX9_add_17 : decode cX9_add 17 = .ok (.aload_n 0, 1) := by decide +kernel
theorem dX9_add_18 : decode cX9_add 18 = .ok (.getfield 25, 3) := by decide +kernel
theorem dX9_add_21 : decode cX9_add 21 = .ok (.bipush 24, 2) := by decide +kernel
theorem dX9_add_23 : decode cX9_add 23 = .ok (.iload_n 1, 1) := by decide +kernel
theorem dX9_add_24 : decode cX9_add 24 = .ok (.imul, 1) := by decide +kernel
theorem dX9_add_25 : decode cX9_add 25 = .ok (.aload_n 0, 1) := by decide +kernel
theorem dX9_add_26 : decode cX9_add 26 = .ok (.getfield 19, 3) := by decide +kernel
theorem dX9_add_29 : decode cX9_add 29 = .ok (.iload_n 1, 1) := by decide +kernel
theorem dX9_add_30 : decode cX9_add 30 = .ok (.iaload, 1) := by decide +kernel
theorem dX9_add_31 : decode cX9_add 31 = .ok (.iadd, 1) := by decide +kernel
theorem dX9_add_32 : decode cX9_add 32 = .ok (.iload_n 3, 1) := by decide +kernel
theorem dX9_add_33 : decode cX9_add 33 = .ok (.iastore, 1) := by decide +kernel
theorem dX9_add_34 : decode cX9_add 34 = .ok (.aload_n 0, 1) := by decide +kernel
theorem dX9_add_35 : decode cX9_add 35 = .ok (.getfield 19, 3) := by decide +kernel
theorem dX9_add_38 : decode cX9_add 38 = .ok (.iload_n 1, 1) := by decide +kernel
theorem dX9_add_39 : decode cX9_add 39 = .ok (.dup2, 1) := by decide +kernel
theorem dX9_add_40 : decode cX9_add 40 = .ok (.iaload, 1) := by decide +kernel
theorem dX9_add_41 : decode cX9_add 41 = .ok (.iconst 1, 1) := by decide +kernel
theorem dX9_add_42 : decode cX9_add 42 = .ok (.iadd, 1) := by decide +kernel
theorem dX9_add_43 : decode cX9_add 43 = .ok (.iastore, 1) := by decide +kernel
theorem dX9_add_44 : decode cX9_add 44 = .ok (.aload_n 0, 1) := by decide +kernel
theorem dX9_add_45 : decode cX9_add 45 = .ok (.iconst 0, 1) := by decide +kernel
theorem dX9_add_46 : decode cX9_add 46 = .ok (.putfield 93, 3) := by decide +kernel
theorem dX9_add_49 : decode cX9_add 49 = .ok (.aload_n 0, 1) := by decide +kernel
theorem dX9_add_50 : decode cX9_add 50 = .ok (.getfield 19, 3) := by decide +kernel
theorem dX9_add_53 : decode cX9_add 53 = .ok (.iload_n 1, 1) := by decide +kernel
theorem dX9_add_54 : decode cX9_add 54 = .ok (.iaload, 1) := by decide +kernel
theorem dX9_add_55 : decode cX9_add 55 = .ok (.iconst 1, 1) := by decide +kernel
theorem dX9_add_56 : decode cX9_add 56 = .ok (.isub, 1) := by decide +kernel
theorem dX9_add_57 : decode cX9_add 57 = .ok (.ireturn, 1) := by decide +kernel
set_option maxRecDepth 20000 in
theorem ggX9_addClass_X9_isCondition : GoodIn wsX9_addClass wsX9_isCondition := goodIn_r _ [6, 7, 8, 5, 9] (by decide +kernel) (by decide +kernel)
set_option maxRecDepth 20000 in
theorem gX9_addClass_X9_isCondition : GoodIn wsX9_addClass (va_wsS RX9 108 yX9_isCondition wsX9_isCondition) := goodIn_app (goodIn_of _ (by decide +kernel)) ggX9_addClass_X9_isCondition
set_option maxRecDepth 20000 in
theorem ggX9_addClass_X9_no : GoodIn wsX9_addClass wsX9_no := goodIn_r _ [13, 1, 21, 22, 23, 24, 25, 26, 27, 28, 29, 30, 31, 32, 33, 34, 35, 36, 37, 38, 39, 40, 41, 42, 43, 44] (by decide +kernel) (by decide +kernel)
set_option maxRecDepth 20000 in
theorem gX9_addClass_X9_no : GoodIn wsX9_addClass (wsV RX9 86 RX9 yX9_no wsX9_no) := goodIn_app (goodIn_of _ (by decide +kernel)) ggX9_addClass_X9_no
set_option maxRecDepth 20000 in
theorem ggX9_addClass_X9_add : GoodIn wsX9_addClass wsX9_add := goodIn_r _ [17, 18, 2, 19, 20, 21, 22, 23, 24, 25, 26, 27, 28, 29, 30, 31, 32, 33, 34, 35, 36, 37, 38, 39, 40, 41, 42, 43, 44] (by decide +kernel) (by decide +kernel)
set_option maxRecDepth 20000 in
theorem gX9_addClass_X9_add : GoodIn wsX9_addClass (wsV RX9 111 RX9 yX9_add wsX9_add) := goodIn_app (goodIn_of _ (by decide +kernel)) ggX9_addClass_X9_add
theorem dX9_addClass_0 : decode cX9_addClass 0 = .ok (.aload_n 0, 1) := by decide +kernel
theorem dX9_addClass_1 : decode cX9_addClass 1 = .ok (.iconst 0, 1) := by decide +kernel
theorem dX9_addClass_2 : decode cX9_addClass 2 = .ok (.putfield 71, 3) := by decide +kernel
theorem dX9_addClass_5 : decode cX9_addClass 5 = .ok (.iload_n 1, 1) := by decide +kernel
theorem dX9_addClass_6 : decode cX9_addClass 6 = .ok (.iload_n 2, 1) := by decide +kernel
theorem dX9_addClass_7 : decode cX9_addClass 7 = .ok (.invokestatic 108, 3) := by decide +kernel
theorem dX9_addClass_10 : decode cX9_addClass 10 = .ok (.ifCond .ne 9, 3) := by decide +kernel
theorem dX9_addClass_13 : decode cX9_addClass 13 = .ok (.aload_n 0, 1) := by decide +kernel
theorem dX9_addClass_14 : decode cX9_addClass 14 = .ok (.iconst 1, 1) := by decide +kernel
theorem dX9_addClass_15 : decode cX9_addClass 15 = .ok (.invokevirtual 86, 3) := by decide +kernel
theorem dX9_addClass_18 : decode cX9_addClass 18 = .ok (.ireturn, 1) := by decide +kernel
theorem dX9_addClass_19 : decode cX9_addClass 19 = .ok (.aload_n 0, 1) := by decide +kernel
theorem dX9_addClass_20 : decode cX9_addClass 20 = .ok (.getfield 19, 3) := by decide +kernel
theorem dX9_addClass_23 : decode cX9_addClass 23 = .ok (.iconst 0, 1) := by decide +kernel
theorem dX9_addClass_24 : decode cX9_addClass 24 = .ok (.iaload, 1) := by decide +kernel
theorem dX9_addClass_25 : decode cX9_addClass 25 = .ok (.bipush 8, 2) := by decide +kernel
theorem dX9_addClass_27 : decode cX9_addClass 27 = .ok (.if_icmp .ne 11, 3) := by decide +kernel
theorem dX9_addClass_30 : decode cX9_addClass 30 = .ok (.aload_n 0, 1) := by decide +kernel
theorem dX9_addClass_31 : decode cX9_addClass 31 = .ok (.iconst 2, 1) := by decide +kernel
theorem dX9_addClass_32 : decode cX9_addClass 32 = .ok (.invokevirtual 86, 3) := by decide +kernel
theorem dX9_addClass_35 : decode cX9_addClass 35 = .ok (.goto 10, 3) := by decide +kernel
theorem dX9_addClass_38 : decode cX9_addClass 38 = .ok (.aload_n 0, 1) := by decide +kernel
theorem dX9_addClass_39 : decode cX9_addClass 39 = .ok (.iconst 0, 1) := by decide +kernel
theorem dX9_addClass_40 : decode cX9_addClass 40 = .ok (.iload_n 1, 1) := by decide +kernel
theorem dX9_addClass_41 : decode cX9_addClass 41 = .ok (.iload_n 2, 1) := by decide +kernel
theorem dX9_addClass_42 : decode cX9_addClass 42 = .ok (.invokevirtual 111, 3) := by decide +kernel
theorem dX9_addClass_45 : decode cX9_addClass 45 = .ok (.ireturn, 1) := by decide +kernel
set_option maxRecDepth 20000 in
theorem ggX9_addLink_X9_isElement : GoodIn wsX9_addLink wsX9_isElement := goodIn_r _ [9, 2, 10, 11, 8, 12, 27, 28, 29, 30, 31, 32, 33, 34, 35, 36, 37, 38, 39, 40, 41, 42, 43, 44, 45, 46, 47, 48, 49, 50] (by decide +kernel) (by decide +kernel)
set_option maxRecDepth 20000 in
theorem gX9_addLink_X9_isElement : GoodIn wsX9_addLink (wsV RX9 79 RX9 yX9_isElement wsX9_isElement) := goodIn_app (goodIn_of _ (by decide +kernel)) ggX9_addLink_X9_isElement
set_option maxRecDepth 20000 in
theorem ggX9_addLink_X9_no : GoodIn wsX9_addLink wsX9_no := goodIn_r _ [16, 1, 27, 28, 29, 30, 31, 32, 33, 34, 35, 36, 37, 38, 39, 40, 41, 42, 43, 44, 45, 46, 47, 48, 49, 50] (by decide +kernel) (by decide +kernel)
set_option maxRecDepth 20000 in
theorem gX9_addLink_X9_no : GoodIn wsX9_addLink (wsV RX9 86 RX9 yX9_no wsX9_no) := goodIn_app (goodIn_of _ (by decide +kernel)) ggX9_addLink_X9_no
set_option maxRecDepth 20000 in
theorem ggX9_addLink_X9_isCondition : GoodIn wsX9_addLink wsX9_isCondition := goodIn_r _ [19, 10, 11, 8, 12] (by decide +kernel) (by decide +kernel)
set_option maxRecDepth 20000 in
theorem gX9_addLink_X9_isCondition : GoodIn wsX9_addLink (va_wsS RX9 108 yX9_isCondition wsX9_isCondition) := goodIn_app (goodIn_of _ (by decide +kernel)) ggX9_addLink_X9_isCondition
set_option maxRecDepth 20000 in
theorem ggX9_addLink_X9_add : GoodIn wsX9_addLink wsX9_add := goodIn_r _ [23, 24, 2, 25, 26, 27, 28, 29, 30, 31, 32, 33, 34, 35, 36, 37, 38, 39, 40, 41, 42, 43, 44, 45, 46, 47, 48, 49, 50] (by decide +kernel) (by decide +kernel)
set_option maxRecDepth 20000 in
theorem gX9_addLink_X9_add : GoodIn wsX9_addLink (wsV RX9 111 RX9 yX9_add wsX9_add) := goodIn_app (goodIn_of _ (by decide +kernel)) ggX9_addLink_X9_add
theorem dX9_addLink_0 : decode cX9_addLink 0 = .ok (.aload_n 0, 1) := by decide +kernel
theorem dX9_addLink_1 : decode cX9_addLink 1 = .ok (.iconst 0, 1) := by decide +kernel
theorem dX9_addLink_2 : decode cX9_addLink 2 = .ok (.putfield 71, 3) := by decide +kernel
theorem dX9_addLink_5 : decode cX9_addLink 5 = .ok (.aload_n 0, 1) := by decide +kernel
theorem dX9_addLink_6 : decode cX9_addLink 6 = .ok (.iconst 0, 1) := by decide +kernel
theorem dX9_addLink_7 : decode cX9_addLink 7 = .ok (.iload_n 1, 1) := by decide +kernel
theorem dX9_addLink_8 : decode cX9_addLink 8 = .ok (.invokevirtual 79, 3) := by decide +kernel
theorem dX9_addLink_11 : decode cX9_addLink 11 = .ok (.ifCond .eq 12, 3) := by decide +kernel
theorem dX9_addLink_14 : decode cX9_addLink 14 = .ok (.aload_n 0, 1) := by decide +kernel
theorem dX9_addLink_15 : decode cX9_addLink 15 = .ok (.iconst 0, 1) := by decide +kernel
theorem dX9_addLink_16 : decode cX9_addLink 16 = .ok (.iload_n 2, 1) := by decide +kernel
theorem dX9_addLink_17 : decode cX9_addLink 17 = .ok (.invokevirtual 79, 3) := by decide +kernel
theorem dX9_addLink_20 : decode cX9_addLink 20 = .ok (.ifCond .ne 9, 3) := by decide +kernel
theorem dX9_addLink_23 : decode cX9_addLink 23 = .ok (.aload_n 0, 1) := by decide +kernel
theorem dX9_addLink_24 : decode cX9_addLink 24 = .ok (.iconst 1, 1) := by decide +kernel
theorem dX9_addLink_25 : decode cX9_addLink 25 = .ok (.invokevirtual 86, 3) := by decide +kernel
theorem dX9_addLink_28 : decode cX9_addLink 28 = .ok (.ireturn, 1) := by decide +kernel
theorem dX9_addLink_29 : decode cX9_addLink 29 = .ok (.iload_n 3, 1) := by decide +kernel
theorem dX9_addLink_30 : decode cX9_addLink 30 = .ok (.iload 4, 2) := by decide +kernel
theorem dX9_addLink_32 : decode cX9_addLink 32 = .ok (.invokestatic 108, 3) := by decide +kernel
theorem dX9_addLink_35 : decode cX9_addLink 35 = .ok (.ifCond .ne 9, 3) := by decide +kernel
theorem dX9_addLink_38 : decode cX9_addLink 38 = .ok (.aload_n 0, 1) := by decide +kernel
theorem dX9_addLink_39 : decode cX9_addLink 39 = .ok (.iconst 2, 1) := by decide +kernel
theorem dX9_addLink_40 : decode cX9_addLink 40 = .ok (.invokevirtual 86, 3) := by decide +kernel
theorem dX9_addLink_43 : decode cX9_addLink 43 = .ok (.ireturn, 1) := by decide +kernel
theorem dX9_addLink_44 : decode cX9_addLink 44 = .ok (.aload_n 0, 1) := by decide +kernel
theorem dX9_addLink_45 : decode cX9_addLink 45 = .ok (.getfield 19, 3) := by decide +kernel
theorem dX9_addLink_48 : decode cX9_addLink 48 = .ok (.iconst 1, 1) := by decide +kernel
theorem dX9_addLink_49 : decode cX9_addLink 49 = .ok (.iaload, 1) := by decide +kernel
theorem dX9_addLink_50 : decode cX9_addLink 50 = .ok (.bipush 12, 2) := by decide +kernel
theorem dX9_addLink_52 : decode cX9_addLink 52 = .ok (.if_icmp .ne 9, 3) := by decide +kernel
theorem dX9_addLink_55 : decode cX9_addLink 55 = .ok (.aload_n 0, 1) := by decide +kernel
theorem dX9_addLink_56 : decode cX9_addLink 56 = .ok (.iconst 3, 1) := by decide +kernel
theorem dX9_addLink_57 : decode cX9_addLink 57 = .ok (.invokevirtual 86, 3) := by decide +kernel
theorem dX9_addLink_60 : decode cX9_addLink 60 = .ok (.ireturn, 1) := by decide +kernel
theorem dX9_addLink_61 : decode cX9_addLink 61 = .ok (.aload_n 0, 1) := by decide +kernel
theorem dX9_addLink_62 : decode cX9_addLink 62 = .ok (.getfield 28, 3) := by decide +kernel
theorem dX9_addLink_65 : decode cX9_addLink 65 = .ok (.aload_n 0, 1) := by decide +kernel
theorem dX9_addLink_66 : decode cX9_addLink 66 = .ok (.getfield 19, 3) := by decide +kernel
theorem dX9_addLink_69 : decode cX9_addLink 69 = .ok (.iconst 1, 1) := by decide +kernel
theorem dX9_addLink_70 : decode cX9_addLink 70 = .ok (.iaload, 1) := by decide +kernel
theorem dX9_addLink_71 : decode cX9_addLink 71 = .ok (.iload_n 1, 1) := by decide +kernel
theorem dX9_addLink_72 : decode cX9_addLink 72 = .ok (.iastore, 1) := by decide +kernel
theorem dX9_addLink_73 : decode cX9_addLink 73 = .ok (.aload_n 0, 1) := by decide +kernel
theorem dX9_addLink_74 : decode cX9_addLink 74 = .ok (.getfield 31, 3) := by decide +kernel
theorem dX9_addLink_77 : decode cX9_addLink 77 = .ok (.aload_n 0, 1) := by decide +kernel
theorem dX9_addLink_78 : decode cX9_addLink 78 = .ok (.getfield 19, 3) := by decide +kernel
theorem dX9_addLink_81 : decode cX9_addLink 81 = .ok (.iconst 1, 1) := by decide +kernel
theorem dX9_addLink_82 : decode cX9_addLink 82 = .ok (.iaload, 1) := by decide +kernel
theorem dX9_addLink_83 : decode cX9_addLink 83 = .ok (.iload_n 2, 1) := by decide +kernel
theorem dX9_addLink_84 : decode cX9_addLink 84 = .ok (.iastore, 1) := by decide +kernel
theorem dX9_addLink_85 : decode cX9_addLink 85 = .ok (.aload_n 0, 1) := by decide +kernel
theorem dX9_addLink_86 : decode cX9_addLink 86 = .ok (.iconst 1, 1) := by decide +kernel
theorem dX9_addLink_87 : decode cX9_addLink 87 = .ok (.iload_n 3, 1) := by decide +kernel
theorem dX9_addLink_88 : decode cX9_addLink 88 = .ok (.iload 4, 2) := by decide +kernel
theorem dX9_addLink_90 : decode cX9_addLink 90 = .ok (.invokevirtual 111, 3) := by decide +kernel
theorem dX9_addLink_93 : decode cX9_addLink 93 = .ok (.ireturn, 1) := by decide +kernel
set_option maxRecDepth 20000 in
theorem ggX9_addMember_X9_no : GoodIn wsX9_addMember wsX9_no := goodIn_r _ [11, 12, 20, 21, 22, 23, 24, 25, 26, 27, 28, 29, 30, 31, 32, 33, 34, 35, 36, 37, 38, 39, 40, 41, 42, 43] (by decide +kernel) (by decide +kernel)
set_option maxRecDepth 20000 in
theorem gX9_addMember_X9_no : GoodIn wsX9_addMember (wsV RX9 86 RX9 yX9_no wsX9_no) := goodIn_app (goodIn_of _ (by decide +kernel)) ggX9_addMember_X9_no
set_option maxRecDepth 20000 in
theorem ggX9_addMember_X9_add : GoodIn wsX9_addMember wsX9_add := goodIn_r _ [16, 17, 1, 18, 19, 20, 21, 22, 23, 24, 25, 26, 27, 28, 29, 30, 31, 32, 33, 34, 35, 36, 37, 38, 39, 40, 41, 42, 43] (by decide +kernel) (by decide +kernel)
set_option maxRecDepth 20000 in
theorem gX9_addMember_X9_add : GoodIn wsX9_addMember (wsV RX9 111 RX9 yX9_add wsX9_add) := goodIn_app (goodIn_of _ (by decide +kernel)) ggX9_addMember_X9_add
theorem dX9_addMember_0 : decode cX9_addMember 0 = .ok (.aload_n 0, 1) := by decide +kernel
theorem dX9_addMember_1 : decode cX9_addMember 1 = .ok (.getfield 19, 3) := by decide +kernel
theorem dX9_addMember_4 : decode cX9_addMember 4 = .ok (.iconst 2, 1) := by decide +kernel
theorem dX9_addMember_5 : decode cX9_addMember 5 = .ok (.iaload, 1) := by decide +kernel
theorem dX9_addMember_6 : decode cX9_addMember 6 = .ok (.bipush 24, 2) := by decide +kernel
theorem dX9_addMember_8 : decode cX9_addMember 8 = .ok (.if_icmp .ne 9, 3) := by decide +kernel
theorem dX9_addMember_11 : decode cX9_addMember 11 = .ok (.aload_n 0, 1) := by decide +kernel
theorem dX9_addMember_12 : decode cX9_addMember 12 = .ok (.iconst 3, 1) := by decide +kernel
theorem dX9_addMember_13 : decode cX9_addMember 13 = .ok (.invokevirtual 86, 3) := by decide +kernel
theorem dX9_addMember_16 : decode cX9_addMember 16 = .ok (.ireturn, 1) := by decide +kernel
theorem dX9_addMember_17 : decode cX9_addMember 17 = .ok (.aload_n 0, 1) := by decide +kernel
theorem dX9_addMember_18 : decode cX9_addMember 18 = .ok (.getfield 19, 3) := by decide +kernel
theorem dX9_addMember_21 : decode cX9_addMember 21 = .ok (.iconst 2, 1) := by decide +kernel
theorem dX9_addMember_22 : decode cX9_addMember 22 = .ok (.iaload, 1) := by decide +kernel
theorem dX9_addMember_23 : decode cX9_addMember 23 = .ok (.istore 9, 2) := by decide +kernel
theorem dX9_addMember_25 : decode cX9_addMember 25 = .ok (.aload_n 0, 1) := by decide +kernel
theorem dX9_addMember_26 : decode cX9_addMember 26 = .ok (.getfield 34, 3) := by decide +kernel
theorem dX9_addMember_29 : decode cX9_addMember 29 = .ok (.iload 9, 2) := by decide +kernel
theorem dX9_addMember_31 : decode cX9_addMember 31 = .ok (.iload_n 1, 1) := by decide +kernel
theorem dX9_addMember_32 : decode cX9_addMember 32 = .ok (.bastore, 1) := by decide +kernel
theorem dX9_addMember_33 : decode cX9_addMember 33 = .ok (.aload_n 0, 1) := by decide +kernel
theorem dX9_addMember_34 : decode cX9_addMember 34 = .ok (.getfield 38, 3) := by decide +kernel
theorem dX9_addMember_37 : decode cX9_addMember 37 = .ok (.iload 9, 2) := by decide +kernel
theorem dX9_addMember_39 : decode cX9_addMember 39 = .ok (.iload_n 2, 1) := by decide +kernel
theorem dX9_addMember_40 : decode cX9_addMember 40 = .ok (.iastore, 1) := by decide +kernel
theorem dX9_addMember_41 : decode cX9_addMember 41 = .ok (.aload_n 0, 1) := by decide +kernel
theorem dX9_addMember_42 : decode cX9_addMember 42 = .ok (.getfield 41, 3) := by decide +kernel
theorem dX9_addMember_45 : decode cX9_addMember 45 = .ok (.iload 9, 2) := by decide +kernel
theorem dX9_addMember_47 : decode cX9_addMember 47 = .ok (.iload_n 3, 1) := by decide +kernel
theorem dX9_addMember_48 : decode cX9_addMember 48 = .ok (.iastore, 1) := by decide +kernel
theorem dX9_addMember_49 : decode cX9_addMember 49 = .ok (.aload_n 0, 1) := by decide +kernel
theorem dX9_addMember_50 : decode cX9_addMember 50 = .ok (.getfield 44, 3) := by decide +kernel
theorem dX9_addMember_53 : decode cX9_addMember 53 = .ok (.iload 9, 2) := by decide +kernel
theorem dX9_addMember_55 : decode cX9_addMember 55 = .ok (.iload 4, 2) := by decide +kernel
theorem dX9_addMember_57 : decode cX9_addMember 57 = .ok (.iastore, 1) := by decide +kernel
theorem dX9_addMember_58 : decode cX9_addMember 58 = .ok (.aload_n 0, 1) := by decide +kernel
theorem dX9_addMember_59 : decode cX9_addMember 59 = .ok (.getfield 47, 3) := by decide +kernel
theorem dX9_addMember_62 : decode cX9_addMember 62 = .ok (.iconst 2, 1) := by decide +kernel
theorem dX9_addMember_63 : decode cX9_addMember 63 = .ok (.iload 9, 2) := by decide +kernel
theorem dX9_addMember_65 : decode cX9_addMember 65 = .ok (.imul, 1) := by decide +kernel
theorem dX9_addMember_66 : decode cX9_addMember 66 = .ok (.iload 5, 2) := by decide +kernel
theorem dX9_addMember_68 : decode cX9_addMember 68 = .ok (.iastore, 1) := by decide +kernel
theorem dX9_addMember_69 : decode cX9_addMember 69 = .ok (.aload_n 0, 1) := by decide +kernel
theorem dX9_addMember_70 : decode cX9_addMember 70 = .ok (.getfield 47, 3) := by decide +kernel
theorem dX9_addMember_73 : decode cX9_addMember 73 = .ok (.iconst 2, 1) := by decide +kernel
theorem dX9_addMember_74 : decode cX9_addMember 74 = .ok (.iload 9, 2) := by decide +kernel
theorem dX9_addMember_76 : decode cX9_addMember 76 = .ok (.imul, 1) := by decide +kernel
theorem dX9_addMember_77 : decode cX9_addMember 77 = .ok (.iconst 1, 1) := by decide +kernel
theorem dX9_addMember_78 : decode cX9_addMember 78 = .ok (.iadd, 1) := by decide +kernel
theorem dX9_addMember_79 : decode cX9_addMember 79 = .ok (.iload 6, 2) := by decide +kernel
theorem dX9_addMember_81 : decode cX9_addMember 81 = .ok (.iastore, 1) := by decide +kernel
theorem dX9_addMember_82 : decode cX9_addMember 82 = .ok (.aload_n 0, 1) := by decide +kernel
theorem dX9_addMember_83 : decode cX9_addMember 83 = .ok (.iconst 2, 1) := by decide +kernel
theorem dX9_addMember_84 : decode cX9_addMember 84 = .ok (.iload 7, 2) := by decide +kernel
theorem dX9_addMember_86 : decode cX9_addMember 86 = .ok (.iload 8, 2) := by decide +kernel
theorem dX9_addMember_88 : decode cX9_addMember 88 = .ok (.invokevirtual 111, 3) := by decide +kernel
theorem dX9_addMember_91 : decode cX9_addMember 91 = .ok (.ireturn, 1) := by decide +kernel
set_option maxRecDepth 20000 in
theorem ggX9_addField_X9_isElement : GoodIn wsX9_addField wsX9_isElement := goodIn_r _ [6, 7, 8, 9, 5, 10, 41, 42, 43, 44, 45, 46, 47, 48, 49, 50, 51, 52, 53, 54, 55, 56, 57, 58, 59, 60, 61, 62, 63, 64] (by decide +kernel) (by decide +kernel)
set_option maxRecDepth 20000 in
theorem gX9_addField_X9_isElement : GoodIn wsX9_addField (wsV RX9 79 RX9 yX9_isElement wsX9_isElement) := goodIn_app (goodIn_of _ (by decide +kernel)) ggX9_addField_X9_isElement
set_option maxRecDepth 20000 in
theorem ggX9_addField_X9_no : GoodIn wsX9_addField wsX9_no := goodIn_r _ [14, 1, 41, 42, 43, 44, 45, 46, 47, 48, 49, 50, 51, 52, 53, 54, 55, 56, 57, 58, 59, 60, 61, 62, 63, 64] (by decide +kernel) (by decide +kernel)
set_option maxRecDepth 20000 in
theorem gX9_addField_X9_no : GoodIn wsX9_addField (wsV RX9 86 RX9 yX9_no wsX9_no) := goodIn_app (goodIn_of _ (by decide +kernel)) ggX9_addField_X9_no
set_option maxRecDepth 20000 in
theorem ggX9_addField_X9_isName : GoodIn wsX9_addField wsX9_isName := goodIn_r _ [17, 8, 9, 5, 10] (by decide +kernel) (by decide +kernel)
set_option maxRecDepth 20000 in
theorem gX9_addField_X9_isName : GoodIn wsX9_addField (va_wsS RX9 115 yX9_isName wsX9_isName) := goodIn_app (goodIn_of _ (by decide +kernel)) ggX9_addField_X9_isName
set_option maxRecDepth 20000 in
theorem ggX9_addField_X9_isType : GoodIn wsX9_addField wsX9_isType := goodIn_r _ [21, 2, 3, 4, 5, 6, 7, 8, 9, 10, 41, 42, 43, 44, 45, 46, 47, 48, 49, 50, 51, 52, 53, 54, 55, 56, 57, 58, 59, 60, 61, 62, 63, 64] (by decide +kernel) (by decide +kernel)
set_option maxRecDepth 20000 in
theorem gX9_addField_X9_isType : GoodIn wsX9_addField (wsV RX9 118 RX9 yX9_isType wsX9_isType) := goodIn_app (goodIn_of _ (by decide +kernel)) ggX9_addField_X9_isType
set_option maxRecDepth 20000 in
theorem ggX9_addField_X9_isCondition : GoodIn wsX9_addField wsX9_isCondition := goodIn_r _ [24, 8, 9, 5, 10] (by decide +kernel) (by decide +kernel)
set_option maxRecDepth 20000 in
theorem gX9_addField_X9_isCondition : GoodIn wsX9_addField (va_wsS RX9 108 yX9_isCondition wsX9_isCondition) := goodIn_app (goodIn_of _ (by decide +kernel)) ggX9_addField_X9_isCondition
set_option maxRecDepth 20000 in
theorem ggX9_addField_X9_addMember : GoodIn wsX9_addField wsX9_addMember := goodIn_r _ [28, 7, 29, 30, 31, 32, 33, 11, 12, 13, 5, 14, 1, 34, 35, 36, 37, 38, 39, 40, 41, 42, 43, 44, 45, 46, 47, 48, 49, 50, 51, 52, 53, 54, 55, 56, 57, 58, 59, 60, 61, 62, 63, 64] (by decide +kernel) (by decide +kernel)
set_option maxRecDepth 20000 in
theorem gX9_addField_X9_addMember : GoodIn wsX9_addField (wsV RX9 121 RX9 yX9_addMember wsX9_addMember) := goodIn_app (goodIn_of _ (by decide +kernel)) ggX9_addField_X9_addMember
theorem dX9_addField_0 : decode cX9_addField 0 = .ok (.aload_n 0, 1) := by decide +kernel
theorem dX9_addField_1 : decode cX9_addField 1 = .ok (.iconst 0, 1) := by decide +kernel
theorem dX9_addField_2 : decode cX9_addField 2 = .ok (.putfield 71, 3) := by decide +kernel
theorem dX9_addField_5 : decode cX9_addField 5 = .ok (.aload_n 0, 1) := by decide +kernel
theorem dX9_addField_6 : decode cX9_addField 6 = .ok (.iconst 0, 1) := by decide +kernel
theorem dX9_addField_7 : decode cX9_addField 7 = .ok (.iload_n 1, 1) := by decide +kernel
theorem dX9_addField_8 : decode cX9_addField 8 = .ok (.invokevirtual 79, 3) := by decide +kernel
theorem dX9_addField_11 : decode cX9_addField 11 = .ok (.ifCond .ne 9, 3) := by decide +kernel
theorem dX9_addField_14 : decode cX9_addField 14 = .ok (.aload_n 0, 1) := by decide +kernel
theorem dX9_addField_15 : decode cX9_addField 15 = .ok (.iconst 1, 1) := by decide +kernel
theorem dX9_addField_16 : decode cX9_addField 16 = .ok (.invokevirtual 86, 3) := by decide +kernel
theorem dX9_addField_19 : decode cX9_addField 19 = .ok (.ireturn, 1) := by decide +kernel
theorem dX9_addField_20 : decode cX9_addField 20 = .ok (.iload_n 2, 1) := by decide +kernel
theorem dX9_addField_21 : decode cX9_addField 21 = .ok (.invokestatic 115, 3) := by decide +kernel
theorem dX9_addField_24 : decode cX9_addField 24 = .ok (.ifCond .eq 38, 3) := by decide +kernel
theorem dX9_addField_27 : decode cX9_addField 27 = .ok (.aload_n 0, 1) := by decide +kernel
theorem dX9_addField_28 : decode cX9_addField 28 = .ok (.iload_n 3, 1) := by decide +kernel
theorem dX9_addField_29 : decode cX9_addField 29 = .ok (.invokevirtual 118, 3) := by decide +kernel
theorem dX9_addField_32 : decode cX9_addField 32 = .ok (.ifCond .eq 30, 3) := by decide +kernel
theorem dX9_addField_35 : decode cX9_addField 35 = .ok (.iload 4, 2) := by decide +kernel
theorem dX9_addField_37 : decode cX9_addField 37 = .ok (.iload 5, 2) := by decide +kernel
theorem dX9_addField_39 : decode cX9_addField 39 = .ok (.invokestatic 108, 3) := by decide +kernel
theorem dX9_addField_42 : decode cX9_addField 42 = .ok (.ifCond .eq 20, 3) := by decide +kernel
theorem dX9_addField_45 : decode cX9_addField 45 = .ok (.aload_n 0, 1) := by decide +kernel
theorem dX9_addField_46 : decode cX9_addField 46 = .ok (.iconst 0, 1) := by decide +kernel
theorem dX9_addField_47 : decode cX9_addField 47 = .ok (.iload_n 1, 1) := by decide +kernel
theorem dX9_addField_48 : decode cX9_addField 48 = .ok (.iload_n 2, 1) := by decide +kernel
theorem dX9_addField_49 : decode cX9_addField 49 = .ok (.iload_n 3, 1) := by decide +kernel
theorem dX9_addField_50 : decode cX9_addField 50 = .ok (.iconst (-1), 1) := by decide +kernel
theorem dX9_addField_51 : decode cX9_addField 51 = .ok (.iconst (-1), 1) := by decide +kernel
theorem dX9_addField_52 : decode cX9_addField 52 = .ok (.iload 4, 2) := by decide +kernel
theorem dX9_addField_54 : decode cX9_addField 54 = .ok (.iload 5, 2) := by decide +kernel
theorem dX9_addField_56 : decode cX9_addField 56 = .ok (.invokevirtual 121, 3) := by decide +kernel
theorem dX9_addField_59 : decode cX9_addField 59 = .ok (.goto 8, 3) := by decide +kernel
theorem dX9_addField_62 : decode cX9_addField 62 = .ok (.aload_n 0, 1) := by decide +kernel
theorem dX9_addField_63 : decode cX9_addField 63 = .ok (.iconst 2, 1) := by decide +kernel
theorem dX9_addField_64 : decode cX9_addField 64 = .ok (.invokevirtual 86, 3) := by decide +kernel
theorem dX9_addField_67 : decode cX9_addField 67 = .ok (.ireturn, 1) := by decide +kernel
set_option maxRecDepth 20000 in
theorem ggX9_addMethod_X9_isElement : GoodIn wsX9_addMethod wsX9_isElement := goodIn_r _ [6, 7, 8, 9, 5, 10, 41, 42, 43, 44, 45, 46, 47, 48, 49, 50, 51, 52, 53, 54, 55, 56, 57, 58, 59, 60, 61, 62, 63, 64] (by decide +kernel) (by decide +kernel)
set_option maxRecDepth 20000 in
theorem gX9_addMethod_X9_isElement : GoodIn wsX9_addMethod (wsV RX9 79 RX9 yX9_isElement wsX9_isElement) := goodIn_app (goodIn_of _ (by decide +kernel)) ggX9_addMethod_X9_isElement
set_option maxRecDepth 20000 in
theorem ggX9_addMethod_X9_no : GoodIn wsX9_addMethod wsX9_no := goodIn_r _ [14, 1, 41, 42, 43, 44, 45, 46, 47, 48, 49, 50, 51, 52, 53, 54, 55, 56, 57, 58, 59, 60, 61, 62, 63, 64] (by decide +kernel) (by decide +kernel)
set_option maxRecDepth 20000 in
theorem gX9_addMethod_X9_no : GoodIn wsX9_addMethod (wsV RX9 86 RX9 yX9_no wsX9_no) := goodIn_app (goodIn_of _ (by decide +kernel)) ggX9_addMethod_X9_no
set_option maxRecDepth 20000 in
theorem ggX9_addMethod_X9_isType : GoodIn wsX9_addMethod wsX9_isType := goodIn_r _ [18, 2, 3, 4, 5, 6, 7, 8, 9, 10, 41, 42, 43, 44, 45, 46, 47, 48, 49, 50, 51, 52, 53, 54, 55, 56, 57, 58, 59, 60, 61, 62, 63, 64] (by decide +kernel) (by decide +kernel)
set_option maxRecDepth 20000 in
theorem gX9_addMethod_X9_isType : GoodIn wsX9_addMethod (wsV RX9 118 RX9 yX9_isType wsX9_isType) := goodIn_app (goodIn_of _ (by decide +kernel)) ggX9_addMethod_X9_isType
set_option maxRecDepth 20000 in
theorem ggX9_addMethod_X9_isName : GoodIn wsX9_addMethod wsX9_isName := goodIn_r _ [21, 8, 9, 5, 10] (by decide +kernel) (by decide +kernel)
set_option maxRecDepth 20000 in
theorem gX9_addMethod_X9_isName : GoodIn wsX9_addMethod (va_wsS RX9 115 yX9_isName wsX9_isName) := goodIn_app (goodIn_of _ (by decide +kernel)) ggX9_addMethod_X9_isName
set_option maxRecDepth 20000 in
theorem ggX9_addMethod_X9_isCondition : GoodIn wsX9_addMethod wsX9_isCondition := goodIn_r _ [24, 8, 9, 5, 10] (by decide +kernel) (by decide +kernel)
set_option maxRecDepth 20000 in
theorem gX9_addMethod_X9_isCondition : GoodIn wsX9_addMethod (va_wsS RX9 108 yX9_isCondition wsX9_isCondition) := goodIn_app (goodIn_of _ (by decide +kernel)) ggX9_addMethod_X9_isCondition
set_option maxRecDepth 20000 in
theorem ggX9_addMethod_X9_addMember : GoodIn wsX9_addMethod wsX9_addMember := goodIn_r _ [28, 7, 29, 30, 31, 32, 33, 11, 12, 13, 5, 14, 1, 34, 35, 36, 37, 38, 39, 40, 41, 42, 43, 44, 45, 46, 47, 48, 49, 50, 51, 52, 53, 54, 55, 56, 57, 58, 59, 60, 61, 62, 63, 64] (by decide +kernel) (by decide +kernel)
set_option maxRecDepth 20000 in
theorem gX9_addMethod_X9_addMember : GoodIn wsX9_addMethod (wsV RX9 121 RX9 yX9_addMember wsX9_addMember) := goodIn_app (goodIn_of _ (by decide +kernel)) ggX9_addMethod_X9_addMember
theorem dX9_addMethod_0 : decode cX9_addMethod 0 = .ok (.aload_n 0, 1) := by decide +kernel
theorem dX9_addMethod_1 : decode cX9_addMethod 1 = .ok (.iconst 0, 1) := by decide +kernel
theorem dX9_addMethod_2 : decode cX9_addMethod 2 = .ok (.putfield 71, 3) := by decide +kernel
theorem dX9_addMethod_5 : decode cX9_addMethod 5 = .ok (.aload_n 0, 1) := by decide +kernel
theorem dX9_addMethod_6 : decode cX9_addMethod 6 = .ok (.iconst 0, 1) := by decide +kernel
theorem dX9_addMethod_7 : decode cX9_addMethod 7 = .ok (.iload_n 1, 1) := by decide +kernel
theorem dX9_addMethod_8 : decode cX9_addMethod 8 = .ok (.invokevirtual 79, 3) := by decide +kernel
theorem dX9_addMethod_11 : decode cX9_addMethod 11 = .ok (.ifCond .ne 9, 3) := by decide +kernel
theorem dX9_addMethod_14 : decode cX9_addMethod 14 = .ok (.aload_n 0, 1) := by decide +kernel
theorem dX9_addMethod_15 : decode cX9_addMethod 15 = .ok (.iconst 1, 1) := by decide +kernel
theorem dX9_addMethod_16 : decode cX9_addMethod 16 = .ok (.invokevirtual 86, 3) := by decide +kernel
theorem dX9_addMethod_19 : decode cX9_addMethod 19 = .ok (.ireturn, 1) := by decide +kernel
theorem dX9_addMethod_20 : decode cX9_addMethod 20 = .ok (.aload_n 0, 1) := by decide +kernel
theorem dX9_addMethod_21 : decode cX9_addMethod 21 = .ok (.iload_n 3, 1) := by decide +kernel
theorem dX9_addMethod_22 : decode cX9_addMethod 22 = .ok (.invokevirtual 118, 3) := by decide +kernel
theorem dX9_addMethod_25 : decode cX9_addMethod 25 = .ok (.ifCond .eq 49, 3) := by decide +kernel
theorem dX9_addMethod_28 : decode cX9_addMethod 28 = .ok (.iload 4, 2) := by decide +kernel
theorem dX9_addMethod_30 : decode cX9_addMethod 30 = .ok (.iconst (-1), 1) := by decide +kernel
theorem dX9_addMethod_31 : decode cX9_addMethod 31 = .ok (.if_icmp .eq 12, 3) := by decide +kernel
theorem dX9_addMethod_34 : decode cX9_addMethod 34 = .ok (.aload_n 0, 1) := by decide +kernel
theorem dX9_addMethod_35 : decode cX9_addMethod 35 = .ok (.iload 4, 2) := by decide +kernel
theorem dX9_addMethod_37 : decode cX9_addMethod 37 = .ok (.invokevirtual 118, 3) := by decide +kernel
theorem dX9_addMethod_40 : decode cX9_addMethod 40 = .ok (.ifCond .eq 34, 3) := by decide +kernel
theorem dX9_addMethod_43 : decode cX9_addMethod 43 = .ok (.iload 5, 2) := by decide +kernel
theorem dX9_addMethod_45 : decode cX9_addMethod 45 = .ok (.iconst (-1), 1) := by decide +kernel
theorem dX9_addMethod_46 : decode cX9_addMethod 46 = .ok (.if_icmp .eq 12, 3) := by decide +kernel
theorem dX9_addMethod_49 : decode cX9_addMethod 49 = .ok (.aload_n 0, 1) := by decide +kernel
theorem dX9_addMethod_50 : decode cX9_addMethod 50 = .ok (.iload 5, 2) := by decide +kernel
theorem dX9_addMethod_52 : decode cX9_addMethod 52 = .ok (.invokevirtual 118, 3) := by decide +kernel
theorem dX9_addMethod_55 : decode cX9_addMethod 55 = .ok (.ifCond .eq 19, 3) := by decide +kernel
theorem dX9_addMethod_58 : decode cX9_addMethod 58 = .ok (.iload 4, 2) := by decide +kernel
theorem dX9_addMethod_60 : decode cX9_addMethod 60 = .ok (.iconst (-1), 1) := by decide +kernel
theorem dX9_addMethod_61 : decode cX9_addMethod 61 = .ok (.if_icmp .ne 9, 3) := by decide +kernel
theorem dX9_addMethod_64 : decode cX9_addMethod 64 = .ok (.iload 5, 2) := by decide +kernel
theorem dX9_addMethod_66 : decode cX9_addMethod 66 = .ok (.iconst (-1), 1) := by decide +kernel
theorem dX9_addMethod_67 : decode cX9_addMethod 67 = .ok (.if_icmp .ne 7, 3) := by decide +kernel
theorem dX9_addMethod_70 : decode cX9_addMethod 70 = .ok (.iconst 1, 1) := by decide +kernel
theorem dX9_addMethod_71 : decode cX9_addMethod 71 = .ok (.goto 4, 3) := by decide +kernel
theorem dX9_addMethod_74 : decode cX9_addMethod 74 = .ok (.iconst 0, 1) := by decide +kernel
theorem dX9_addMethod_75 : decode cX9_addMethod 75 = .ok (.istore 8, 2) := by decide +kernel
theorem dX9_addMethod_77 : decode cX9_addMethod 77 = .ok (.iload_n 2, 1) := by decide +kernel
theorem dX9_addMethod_78 : decode cX9_addMethod 78 = .ok (.invokestatic 115, 3) := by decide +kernel
theorem dX9_addMethod_81 : decode cX9_addMethod 81 = .ok (.ifCond .eq 37, 3) := by decide +kernel
theorem dX9_addMethod_84 : decode cX9_addMethod 84 = .ok (.iload 8, 2) := by decide +kernel
theorem dX9_addMethod_86 : decode cX9_addMethod 86 = .ok (.ifCond .eq 32, 3) := by decide +kernel
theorem dX9_addMethod_89 : decode cX9_addMethod 89 = .ok (.iload 6, 2) := by decide +kernel
theorem dX9_addMethod_91 : decode cX9_addMethod 91 = .ok (.iload 7, 2) := by decide +kernel
theorem dX9_addMethod_93 : decode cX9_addMethod 93 = .ok (.invokestatic 108, 3) := by decide +kernel
theorem dX9_addMethod_96 : decode cX9_addMethod 96 = .ok (.ifCond .eq 22, 3) := by decide +kernel
theorem dX9_addMethod_99 : decode cX9_addMethod 99 = .ok (.aload_n 0, 1) := by decide +kernel
theorem dX9_addMethod_100 : decode cX9_addMethod 100 = .ok (.iconst 1, 1) := by decide +kernel
theorem dX9_addMethod_101 : decode cX9_addMethod 101 = .ok (.iload_n 1, 1) := by decide +kernel
theorem dX9_addMethod_102 : decode cX9_addMethod 102 = .ok (.iload_n 2, 1) := by decide +kernel
theorem dX9_addMethod_103 : decode cX9_addMethod 103 = .ok (.iload_n 3, 1) := by decide +kernel
theorem dX9_addMethod_104 : decode cX9_addMethod 104 = .ok (.iload 4, 2) := by decide +kernel
theorem dX9_addMethod_106 : decode cX9_addMethod 106 = .ok (.iload 5, 2) := by decide +kernel
theorem dX9_addMethod_108 : decode cX9_addMethod 108 = .ok (.iload 6, 2) := by decide +kernel
theorem dX9_addMethod_110 : decode cX9_addMethod 110 = .ok (.iload 7, 2) := by decide +kernel
theorem dX9_addMethod_112 : decode cX9_addMethod 112 = .ok (.invokevirtual 121, 3) := by decide +kernel
theorem dX9_addMethod_115 : decode cX9_addMethod 115 = .ok (.goto 8, 3) := by decide +kernel
theorem dX9_addMethod_118 : decode cX9_addMethod 118 = .ok (.aload_n 0, 1) := by decide +kernel
theorem dX9_addMethod_119 : decode cX9_addMethod 119 = .ok (.iconst 2, 1) := by decide +kernel
theorem dX9_addMethod_120 : decode cX9_addMethod 120 = .ok (.invokevirtual 86, 3) := by decide +kernel
theorem dX9_addMethod_123 : decode cX9_addMethod 123 = .ok (.ireturn, 1) := by decide +kernel
set_option maxRecDepth 20000 in
theorem ggX9_addExpression_X9_no : GoodIn wsX9_addExpression wsX9_no := goodIn_r _ [11, 12, 13, 14, 15, 16, 17, 18, 19, 20, 21, 22, 23, 24, 25, 26, 27, 28, 29, 30, 31, 32, 33, 34, 35, 36] (by decide +kernel) (by decide +kernel)
set_option maxRecDepth 20000 in
theorem gX9_addExpression_X9_no : GoodIn wsX9_addExpression (wsV RX9 86 RX9 yX9_no wsX9_no) := goodIn_app (goodIn_of _ (by decide +kernel)) ggX9_addExpression_X9_no
theorem dX9_addExpression_0 : decode cX9_addExpression 0 = .ok (.aload_n 0, 1) := by decide +kernel
theorem dX9_addExpression_1 : decode cX9_addExpression 1 = .ok (.getfield 83, 3) := by decide +kernel
theorem dX9_addExpression_4 : decode cX9_addExpression 4 = .ok (.bipush 50, 2) := by decide +kernel
theorem dX9_addExpression_6 : decode cX9_addExpression 6 = .ok (.if_icmp .ne 10, 3) := by decide +kernel
theorem dX9_addExpression_9 : decode cX9_addExpression 9 = .ok (.aload_n 0, 1) := by decide +kernel
theorem dX9_addExpression_10 : decode cX9_addExpression 10 = .ok (.iload 7, 2) := by decide +kernel
theorem dX9_addExpression_12 : decode cX9_addExpression 12 = .ok (.invokevirtual 86, 3) := by decide +kernel
theorem dX9_addExpression_15 : decode cX9_addExpression 15 = .ok (.ireturn, 1) := by decide +kernel
theorem dX9_addExpression_16 : decode cX9_addExpression 16 = .ok (.aload_n 0, 1) := by decide +kernel
theorem dX9_addExpression_17 : decode cX9_addExpression 17 = .ok (.getfield 53, 3) := by decide +kernel
theorem dX9_addExpression_20 : decode cX9_addExpression 20 = .ok (.aload_n 0, 1) := by decide +kernel
theorem dX9_addExpression_21 : decode cX9_addExpression 21 = .ok (.getfield 83, 3) := by decide +kernel
theorem dX9_addExpression_24 : decode cX9_addExpression 24 = .ok (.iload_n 1, 1) := by decide +kernel
theorem dX9_addExpression_25 : decode cX9_addExpression 25 = .ok (.iastore, 1) := by decide +kernel
theorem dX9_addExpression_26 : decode cX9_addExpression 26 = .ok (.aload_n 0, 1) := by decide +kernel
theorem dX9_addExpression_27 : decode cX9_addExpression 27 = .ok (.getfield 56, 3) := by decide +kernel
theorem dX9_addExpression_30 : decode cX9_addExpression 30 = .ok (.aload_n 0, 1) := by decide +kernel
theorem dX9_addExpression_31 : decode cX9_addExpression 31 = .ok (.getfield 83, 3) := by decide +kernel
theorem dX9_addExpression_34 : decode cX9_addExpression 34 = .ok (.iload_n 2, 1) := by decide +kernel
theorem dX9_addExpression_35 : decode cX9_addExpression 35 = .ok (.iastore, 1) := by decide +kernel
theorem dX9_addExpression_36 : decode cX9_addExpression 36 = .ok (.aload_n 0, 1) := by decide +kernel
theorem dX9_addExpression_37 : decode cX9_addExpression 37 = .ok (.getfield 59, 3) := by decide +kernel
theorem dX9_addExpression_40 : decode cX9_addExpression 40 = .ok (.aload_n 0, 1) := by decide +kernel
theorem dX9_addExpression_41 : decode cX9_addExpression 41 = .ok (.getfield 83, 3) := by decide +kernel
theorem dX9_addExpression_44 : decode cX9_addExpression 44 = .ok (.iload_n 3, 1) := by decide +kernel
theorem dX9_addExpression_45 : decode cX9_addExpression 45 = .ok (.iastore, 1) := by decide +kernel
theorem dX9_addExpression_46 : decode cX9_addExpression 46 = .ok (.aload_n 0, 1) := by decide +kernel
theorem dX9_addExpression_47 : decode cX9_addExpression 47 = .ok (.getfield 62, 3) := by decide +kernel
theorem dX9_addExpression_50 : decode cX9_addExpression 50 = .ok (.iconst 3, 1) := by decide +kernel
theorem dX9_addExpression_51 : decode cX9_addExpression 51 = .ok (.aload_n 0, 1) := by decide +kernel
theorem dX9_addExpression_52 : decode cX9_addExpression 52 = .ok (.getfield 83, 3) := by decide +kernel
theorem dX9_addExpression_55 : decode cX9_addExpression 55 = .ok (.imul, 1) := by decide +kernel
theorem dX9_addExpression_56 : decode cX9_addExpression 56 = .ok (.iload 4, 2) := by decide +kernel
theorem dX9_addExpression_58 : decode cX9_addExpression 58 = .ok (.iastore, 1) := by decide +kernel
theorem dX9_addExpression_59 : decode cX9_addExpression 59 = .ok (.aload_n 0, 1) := by decide +kernel
theorem dX9_addExpression_60 : decode cX9_addExpression 60 = .ok (.getfield 62, 3) := by decide +kernel
theorem dX9_addExpression_63 : decode cX9_addExpression 63 = .ok (.iconst 3, 1) := by decide +kernel
theorem dX9_addExpression_64 : decode cX9_addExpression 64 = .ok (.aload_n 0, 1) := by decide +kernel
theorem dX9_addExpression_65 : decode cX9_addExpression 65 = .ok (.getfield 83, 3) := by decide +kernel
theorem dX9_addExpression_68 : decode cX9_addExpression 68 = .ok (.imul, 1) := by decide +kernel
theorem dX9_addExpression_69 : decode cX9_addExpression 69 = .ok (.iconst 1, 1) := by decide +kernel
theorem dX9_addExpression_70 : decode cX9_addExpression 70 = .ok (.iadd, 1) := by decide +kernel
theorem dX9_addExpression_71 : decode cX9_addExpression 71 = .ok (.iload 5, 2) := by decide +kernel
theorem dX9_addExpression_73 : decode cX9_addExpression 73 = .ok (.iastore, 1) := by decide +kernel
theorem dX9_addExpression_74 : decode cX9_addExpression 74 = .ok (.aload_n 0, 1) := by decide +kernel
theorem dX9_addExpression_75 : decode cX9_addExpression 75 = .ok (.getfield 62, 3) := by decide +kernel
theorem dX9_addExpression_78 : decode cX9_addExpression 78 = .ok (.iconst 3, 1) := by decide +kernel
theorem dX9_addExpression_79 : decode cX9_addExpression 79 = .ok (.aload_n 0, 1) := by decide +kernel
theorem dX9_addExpression_80 : decode cX9_addExpression 80 = .ok (.getfield 83, 3) := by decide +kernel
theorem dX9_addExpression_83 : decode cX9_addExpression 83 = .ok (.imul, 1) := by decide +kernel
theorem dX9_addExpression_84 : decode cX9_addExpression 84 = .ok (.iconst 2, 1) := by decide +kernel
theorem dX9_addExpression_85 : decode cX9_addExpression 85 = .ok (.iadd, 1) := by decide +kernel
theorem dX9_addExpression_86 : decode cX9_addExpression 86 = .ok (.iload 6, 2) := by decide +kernel
theorem dX9_addExpression_88 : decode cX9_addExpression 88 = .ok (.iastore, 1) := by decide +kernel
theorem dX9_addExpression_89 : decode cX9_addExpression 89 = .ok (.aload_n 0, 1) := by decide +kernel
theorem dX9_addExpression_90 : decode cX9_addExpression 90 = .ok (.dup, 1) := by decide +kernel
theorem dX9_addExpression_91 : decode cX9_addExpression 91 = .ok (.getfield 83, 3) := by decide +kernel
theorem dX9_addExpression_94 : decode cX9_addExpression 94 = .ok (.iconst 1, 1) := by decide +kernel
theorem dX9_addExpression_95 : decode cX9_addExpression 95 = .ok (.iadd, 1) := by decide +kernel
theorem dX9_addExpression_96 : decode cX9_addExpression 96 = .ok (.putfield 83, 3) := by decide +kernel
theorem dX9_addExpression_99 : decode cX9_addExpression 99 = .ok (.aload_n 0, 1) := by decide +kernel
theorem dX9_addExpression_100 : decode cX9_addExpression 100 = .ok (.iconst 0, 1) := by decide +kernel
theorem dX9_addExpression_101 : decode cX9_addExpression 101 = .ok (.putfield 93, 3) := by decide +kernel
theorem dX9_addExpression_104 : decode cX9_addExpression 104 = .ok (.aload_n 0, 1) := by decide +kernel
theorem dX9_addExpression_105 : decode cX9_addExpression 105 = .ok (.getfield 83, 3) := by decide +kernel
theorem dX9_addExpression_108 : decode cX9_addExpression 108 = .ok (.iconst 1, 1) := by decide +kernel
theorem dX9_addExpression_109 : decode cX9_addExpression 109 = .ok (.isub, 1) := by decide +kernel
theorem dX9_addExpression_110 : decode cX9_addExpression 110 = .ok (.ireturn, 1) := by decide +kernel
set_option maxRecDepth 20000 in
theorem ggX9_addNew_X9_isMethod : GoodIn wsX9_addNew wsX9_isMethod := goodIn_r _ [6, 7, 8, 9, 10, 5, 11, 12, 13, 14, 15, 30, 31, 32, 33, 34, 35, 36, 37, 38, 39, 40, 41, 42, 43, 44, 45, 46, 47, 48, 49, 50, 51, 52, 53] (by decide +kernel) (by decide +kernel)
set_option maxRecDepth 20000 in
theorem gX9_addNew_X9_isMethod : GoodIn wsX9_addNew (wsV RX9 125 RX9 yX9_isMethod wsX9_isMethod) := goodIn_app (goodIn_of _ (by decide +kernel)) ggX9_addNew_X9_isMethod
set_option maxRecDepth 20000 in
theorem ggX9_addNew_X9_isElement : GoodIn wsX9_addNew wsX9_isElement := goodIn_r _ [11, 12, 13, 14, 5, 15, 30, 31, 32, 33, 34, 35, 36, 37, 38, 39, 40, 41, 42, 43, 44, 45, 46, 47, 48, 49, 50, 51, 52, 53] (by decide +kernel) (by decide +kernel)
set_option maxRecDepth 20000 in
theorem gX9_addNew_X9_isElement : GoodIn wsX9_addNew (wsV RX9 79 RX9 yX9_isElement wsX9_isElement) := goodIn_app (goodIn_of _ (by decide +kernel)) ggX9_addNew_X9_isElement
set_option maxRecDepth 20000 in
theorem ggX9_addNew_X9_addExpression : GoodIn wsX9_addNew wsX9_addExpression := goodIn_r _ [19, 20, 21, 22, 23, 24, 25, 26, 27, 28, 5, 29, 1, 30, 31, 32, 33, 34, 35, 36, 37, 38, 39, 40, 41, 42, 43, 44, 45, 46, 47, 48, 49, 50, 51, 52, 53] (by decide +kernel) (by decide +kernel)
set_option maxRecDepth 20000 in
theorem gX9_addNew_X9_addExpression : GoodIn wsX9_addNew (wsV RX9 128 RX9 yX9_addExpression wsX9_addExpression) := goodIn_app (goodIn_of _ (by decide +kernel)) ggX9_addNew_X9_addExpression
set_option maxRecDepth 20000 in
theorem ggX9_addNew_X9_no : GoodIn wsX9_addNew wsX9_no := goodIn_r _ [29, 1, 30, 31, 32, 33, 34, 35, 36, 37, 38, 39, 40, 41, 42, 43, 44, 45, 46, 47, 48, 49, 50, 51, 52, 53] (by decide +kernel) (by decide +kernel)
set_option maxRecDepth 20000 in
theorem gX9_addNew_X9_no : GoodIn wsX9_addNew (wsV RX9 86 RX9 yX9_no wsX9_no) := goodIn_app (goodIn_of _ (by decide +kernel)) ggX9_addNew_X9_no
theorem dX9_addNew_0 : decode cX9_addNew 0 = .ok (.aload_n 0, 1) := by decide +kernel
theorem dX9_addNew_1 : decode cX9_addNew 1 = .ok (.iconst 0, 1) := by decide +kernel
theorem dX9_addNew_2 : decode cX9_addNew 2 = .ok (.putfield 71, 3) := by decide +kernel
theorem dX9_addNew_5 : decode cX9_addNew 5 = .ok (.aload_n 0, 1) := by decide +kernel
theorem dX9_addNew_6 : decode cX9_addNew 6 = .ok (.iload_n 1, 1) := by decide +kernel
theorem dX9_addNew_7 : decode cX9_addNew 7 = .ok (.invokevirtual 125, 3) := by decide +kernel
theorem dX9_addNew_10 : decode cX9_addNew 10 = .ok (.ifCond .eq 26, 3) := by decide +kernel
theorem dX9_addNew_13 : decode cX9_addNew 13 = .ok (.aload_n 0, 1) := by decide +kernel
theorem dX9_addNew_14 : decode cX9_addNew 14 = .ok (.iconst 0, 1) := by decide +kernel
theorem dX9_addNew_15 : decode cX9_addNew 15 = .ok (.iload_n 2, 1) := by decide +kernel
theorem dX9_addNew_16 : decode cX9_addNew 16 = .ok (.invokevirtual 79, 3) := by decide +kernel
theorem dX9_addNew_19 : decode cX9_addNew 19 = .ok (.ifCond .eq 17, 3) := by decide +kernel
theorem dX9_addNew_22 : decode cX9_addNew 22 = .ok (.aload_n 0, 1) := by decide +kernel
theorem dX9_addNew_23 : decode cX9_addNew 23 = .ok (.iconst 0, 1) := by decide +kernel
theorem dX9_addNew_24 : decode cX9_addNew 24 = .ok (.iload_n 1, 1) := by decide +kernel
theorem dX9_addNew_25 : decode cX9_addNew 25 = .ok (.iload_n 2, 1) := by decide +kernel
theorem dX9_addNew_26 : decode cX9_addNew 26 = .ok (.iconst (-1), 1) := by decide +kernel
theorem dX9_addNew_27 : decode cX9_addNew 27 = .ok (.iconst (-1), 1) := by decide +kernel
theorem dX9_addNew_28 : decode cX9_addNew 28 = .ok (.iconst (-1), 1) := by decide +kernel
theorem dX9_addNew_29 : decode cX9_addNew 29 = .ok (.iconst 2, 1) := by decide +kernel
theorem dX9_addNew_30 : decode cX9_addNew 30 = .ok (.invokevirtual 128, 3) := by decide +kernel
theorem dX9_addNew_33 : decode cX9_addNew 33 = .ok (.goto 8, 3) := by decide +kernel
theorem dX9_addNew_36 : decode cX9_addNew 36 = .ok (.aload_n 0, 1) := by decide +kernel
theorem dX9_addNew_37 : decode cX9_addNew 37 = .ok (.iconst 1, 1) := by decide +kernel
theorem dX9_addNew_38 : decode cX9_addNew 38 = .ok (.invokevirtual 86, 3) := by decide +kernel
theorem dX9_addNew_41 : decode cX9_addNew 41 = .ok (.ireturn, 1) := by decide +kernel
set_option maxRecDepth 20000 in
theorem ggX9_addPlain_X9_isMethod : GoodIn wsX9_addPlain wsX9_isMethod := goodIn_r _ [6, 7, 8, 9, 10, 5, 11, 12, 13, 14, 15, 30, 31, 32, 33, 34, 35, 36, 37, 38, 39, 40, 41, 42, 43, 44, 45, 46, 47, 48, 49, 50, 51, 52, 53] (by decide +kernel) (by decide +kernel)
set_option maxRecDepth 20000 in
theorem gX9_addPlain_X9_isMethod : GoodIn wsX9_addPlain (wsV RX9 125 RX9 yX9_isMethod wsX9_isMethod) := goodIn_app (goodIn_of _ (by decide +kernel)) ggX9_addPlain_X9_isMethod
set_option maxRecDepth 20000 in
theorem ggX9_addPlain_X9_addExpression : GoodIn wsX9_addPlain wsX9_addExpression := goodIn_r _ [19, 20, 21, 22, 23, 24, 25, 26, 27, 28, 5, 29, 1, 30, 31, 32, 33, 34, 35, 36, 37, 38, 39, 40, 41, 42, 43, 44, 45, 46, 47, 48, 49, 50, 51, 52, 53] (by decide +kernel) (by decide +kernel)
set_option maxRecDepth 20000 in
theorem gX9_addPlain_X9_addExpression : GoodIn wsX9_addPlain (wsV RX9 128 RX9 yX9_addExpression wsX9_addExpression) := goodIn_app (goodIn_of _ (by decide +kernel)) ggX9_addPlain_X9_addExpression
set_option maxRecDepth 20000 in
theorem ggX9_addPlain_X9_no : GoodIn wsX9_addPlain wsX9_no := goodIn_r _ [29, 1, 30, 31, 32, 33, 34, 35, 36, 37, 38, 39, 40, 41, 42, 43, 44, 45, 46, 47, 48, 49, 50, 51, 52, 53] (by decide +kernel) (by decide +kernel)
set_option maxRecDepth 20000 in
theorem gX9_addPlain_X9_no : GoodIn wsX9_addPlain (wsV RX9 86 RX9 yX9_no wsX9_no) := goodIn_app (goodIn_of _ (by decide +kernel)) ggX9_addPlain_X9_no
theorem dX9_addPlain_0 : decode cX9_addPlain 0 = .ok (.aload_n 0, 1) := by decide +kernel
theorem dX9_addPlain_1 : decode cX9_addPlain 1 = .ok (.iconst 0, 1) := by decide +kernel
theorem dX9_addPlain_2 : decode cX9_addPlain 2 = .ok (.putfield 71, 3) := by decide +kernel
theorem dX9_addPlain_5 : decode cX9_addPlain 5 = .ok (.aload_n 0, 1) := by decide +kernel
theorem dX9_addPlain_6 : decode cX9_addPlain 6 = .ok (.iload_n 1, 1) := by decide +kernel
theorem dX9_addPlain_7 : decode cX9_addPlain 7 = .ok (.invokevirtual 125, 3) := by decide +kernel
theorem dX9_addPlain_10 : decode cX9_addPlain 10 = .ok (.ifCond .eq 25, 3) := by decide +kernel
theorem dX9_addPlain_13 : decode cX9_addPlain 13 = .ok (.aload_n 0, 1) := by decide +kernel
theorem dX9_addPlain_14 : decode cX9_addPlain 14 = .ok (.iload_n 2, 1) := by decide +kernel
theorem dX9_addPlain_15 : decode cX9_addPlain 15 = .ok (.ifCond .eq 7, 3) := by decide +kernel
theorem dX9_addPlain_18 : decode cX9_addPlain 18 = .ok (.iconst 2, 1) := by decide +kernel
theorem dX9_addPlain_19 : decode cX9_addPlain 19 = .ok (.goto 4, 3) := by decide +kernel
theorem dX9_addPlain_22 : decode cX9_addPlain 22 = .ok (.iconst 1, 1) := by decide +kernel
theorem dX9_addPlain_23 : decode cX9_addPlain 23 = .ok (.iload_n 1, 1) := by decide +kernel
theorem dX9_addPlain_24 : decode cX9_addPlain 24 = .ok (.iconst 0, 1) := by decide +kernel
theorem dX9_addPlain_25 : decode cX9_addPlain 25 = .ok (.iconst (-1), 1) := by decide +kernel
theorem dX9_addPlain_26 : decode cX9_addPlain 26 = .ok (.iconst (-1), 1) := by decide +kernel
theorem dX9_addPlain_27 : decode cX9_addPlain 27 = .ok (.iconst (-1), 1) := by decide +kernel
theorem dX9_addPlain_28 : decode cX9_addPlain 28 = .ok (.iconst 2, 1) := by decide +kernel
theorem dX9_addPlain_29 : decode cX9_addPlain 29 = .ok (.invokevirtual 128, 3) := by decide +kernel
theorem dX9_addPlain_32 : decode cX9_addPlain 32 = .ok (.goto 8, 3) := by decide +kernel
theorem dX9_addPlain_35 : decode cX9_addPlain 35 = .ok (.aload_n 0, 1) := by decide +kernel
theorem dX9_addPlain_36 : decode cX9_addPlain 36 = .ok (.iconst 1, 1) := by decide +kernel
theorem dX9_addPlain_37 : decode cX9_addPlain 37 = .ok (.invokevirtual 86, 3) := by decide +kernel
theorem dX9_addPlain_40 : decode cX9_addPlain 40 = .ok (.ireturn, 1) := by decide +kernel
theorem dX9_parameterCount_0 : decode cX9_parameterCount 0 = .ok (.aload_n 0, 1) := by decide +kernel
theorem dX9_parameterCount_1 : decode cX9_parameterCount 1 = .ok (.getfield 47, 3) := by decide +kernel
theorem dX9_parameterCount_4 : decode cX9_parameterCount 4 = .ok (.iconst 2, 1) := by decide +kernel
theorem dX9_parameterCount_5 : decode cX9_parameterCount 5 = .ok (.iload_n 1, 1) := by decide +kernel
theorem dX9_parameterCount_6 : decode cX9_parameterCount 6 = .ok (.imul, 1) := by decide +kernel
theorem dX9_parameterCount_7 : decode cX9_parameterCount 7 = .ok (.iaload, 1) := by decide +kernel
theorem dX9_parameterCount_8 : decode cX9_parameterCount 8 = .ok (.iconst (-1), 1) := by decide +kernel
theorem dX9_parameterCount_9 : decode cX9_parameterCount 9 = .ok (.if_icmp .ne 7, 3) := by decide +kernel
theorem dX9_parameterCount_12 : decode cX9_parameterCount 12 = .ok (.iconst 0, 1) := by decide +kernel
theorem dX9_parameterCount_13 : decode cX9_parameterCount 13 = .ok (.goto 22, 3) := by decide +kernel
theorem dX9_parameterCount_16 : decode cX9_parameterCount 16 = .ok (.aload_n 0, 1) := by decide +kernel
theorem dX9_parameterCount_17 : decode cX9_parameterCount 17 = .ok (.getfield 47, 3) := by decide +kernel
theorem dX9_parameterCount_20 : decode cX9_parameterCount 20 = .ok (.iconst 2, 1) := by decide +kernel
theorem dX9_parameterCount_21 : decode cX9_parameterCount 21 = .ok (.iload_n 1, 1) := by decide +kernel
theorem dX9_parameterCount_22 : decode cX9_parameterCount 22 = .ok (.imul, 1) := by decide +kernel
theorem dX9_parameterCount_23 : decode cX9_parameterCount 23 = .ok (.iconst 1, 1) := by decide +kernel
theorem dX9_parameterCount_24 : decode cX9_parameterCount 24 = .ok (.iadd, 1) := by decide +kernel
theorem dX9_parameterCount_25 : decode cX9_parameterCount 25 = .ok (.iaload, 1) := by decide +kernel
theorem dX9_parameterCount_26 : decode cX9_parameterCount 26 = .ok (.iconst (-1), 1) := by decide +kernel
theorem dX9_parameterCount_27 : decode cX9_parameterCount 27 = .ok (.if_icmp .ne 7, 3) := by decide +kernel
theorem dX9_parameterCount_30 : decode cX9_parameterCount 30 = .ok (.iconst 1, 1) := by decide +kernel
theorem dX9_parameterCount_31 : decode cX9_parameterCount 31 = .ok (.goto 4, 3) := by decide +kernel
theorem dX9_parameterCount_34 : decode cX9_parameterCount 34 = .ok (.iconst 2, 1) := by decide +kernel
theorem dX9_parameterCount_35 : decode cX9_parameterCount 35 = .ok (.ireturn, 1) := by decide +kernel
set_option maxRecDepth 20000 in
theorem ggX9_addArgument_X9_isMethod : GoodIn wsX9_addArgument wsX9_isMethod := goodIn_r _ [6, 7, 8, 9, 10, 5, 11, 12, 13, 14, 15, 35, 36, 37, 38, 39, 40, 41, 42, 43, 44, 45, 46, 47, 48, 49, 50, 51, 52, 53, 54, 55, 56, 57, 58] (by decide +kernel) (by decide +kernel)
set_option maxRecDepth 20000 in
theorem gX9_addArgument_X9_isMethod : GoodIn wsX9_addArgument (wsV RX9 125 RX9 yX9_isMethod wsX9_isMethod) := goodIn_app (goodIn_of _ (by decide +kernel)) ggX9_addArgument_X9_isMethod
set_option maxRecDepth 20000 in
theorem ggX9_addArgument_X9_parameterCount : GoodIn wsX9_addArgument wsX9_parameterCount := goodIn_r _ [19, 20, 35, 36, 37, 38, 39, 40, 41, 42, 43, 44, 45, 46, 47, 48, 49, 50, 51, 52, 53, 54, 55, 56, 57, 58] (by decide +kernel) (by decide +kernel)
set_option maxRecDepth 20000 in
theorem gX9_addArgument_X9_parameterCount : GoodIn wsX9_addArgument (wsV RX9 132 RX9 yX9_parameterCount wsX9_parameterCount) := goodIn_app (goodIn_of _ (by decide +kernel)) ggX9_addArgument_X9_parameterCount
set_option maxRecDepth 20000 in
theorem ggX9_addArgument_X9_isIn : GoodIn wsX9_addArgument wsX9_isIn := goodIn_r _ [15] (by decide +kernel) (by decide +kernel)
set_option maxRecDepth 20000 in
theorem gX9_addArgument_X9_isIn : GoodIn wsX9_addArgument (va_wsS RX9 75 yX9_isIn wsX9_isIn) := goodIn_app (goodIn_of _ (by decide +kernel)) ggX9_addArgument_X9_isIn
set_option maxRecDepth 20000 in
theorem ggX9_addArgument_X9_no : GoodIn wsX9_addArgument wsX9_no := goodIn_r _ [24, 1, 35, 36, 37, 38, 39, 40, 41, 42, 43, 44, 45, 46, 47, 48, 49, 50, 51, 52, 53, 54, 55, 56, 57, 58] (by decide +kernel) (by decide +kernel)
set_option maxRecDepth 20000 in
theorem gX9_addArgument_X9_no : GoodIn wsX9_addArgument (wsV RX9 86 RX9 yX9_no wsX9_no) := goodIn_app (goodIn_of _ (by decide +kernel)) ggX9_addArgument_X9_no
set_option maxRecDepth 20000 in
theorem ggX9_addArgument_X9_addExpression : GoodIn wsX9_addArgument wsX9_addExpression := goodIn_r _ [28, 29, 30, 31, 32, 33, 34, 21, 22, 23, 5, 24, 1, 35, 36, 37, 38, 39, 40, 41, 42, 43, 44, 45, 46, 47, 48, 49, 50, 51, 52, 53, 54, 55, 56, 57, 58] (by decide +kernel) (by decide +kernel)
set_option maxRecDepth 20000 in
theorem gX9_addArgument_X9_addExpression : GoodIn wsX9_addArgument (wsV RX9 128 RX9 yX9_addExpression wsX9_addExpression) := goodIn_app (goodIn_of _ (by decide +kernel)) ggX9_addArgument_X9_addExpression
theorem dX9_addArgument_0 : decode cX9_addArgument 0 = .ok (.aload_n 0, 1) := by decide +kernel
theorem dX9_addArgument_1 : decode cX9_addArgument 1 = .ok (.iconst 0, 1) := by decide +kernel
theorem dX9_addArgument_2 : decode cX9_addArgument 2 = .ok (.putfield 71, 3) := by decide +kernel
theorem dX9_addArgument_5 : decode cX9_addArgument 5 = .ok (.aload_n 0, 1) := by decide +kernel
theorem dX9_addArgument_6 : decode cX9_addArgument 6 = .ok (.iload_n 1, 1) := by decide +kernel
theorem dX9_addArgument_7 : decode cX9_addArgument 7 = .ok (.invokevirtual 125, 3) := by decide +kernel
theorem dX9_addArgument_10 : decode cX9_addArgument 10 = .ok (.ifCond .eq 18, 3) := by decide +kernel
theorem dX9_addArgument_13 : decode cX9_addArgument 13 = .ok (.iload_n 2, 1) := by decide +kernel
theorem dX9_addArgument_14 : decode cX9_addArgument 14 = .ok (.iconst 0, 1) := by decide +kernel
theorem dX9_addArgument_15 : decode cX9_addArgument 15 = .ok (.aload_n 0, 1) := by decide +kernel
theorem dX9_addArgument_16 : decode cX9_addArgument 16 = .ok (.iload_n 1, 1) := by decide +kernel
theorem dX9_addArgument_17 : decode cX9_addArgument 17 = .ok (.invokevirtual 132, 3) := by decide +kernel
theorem dX9_addArgument_20 : decode cX9_addArgument 20 = .ok (.iconst 1, 1) := by decide +kernel
theorem dX9_addArgument_21 : decode cX9_addArgument 21 = .ok (.isub, 1) := by decide +kernel
theorem dX9_addArgument_22 : decode cX9_addArgument 22 = .ok (.invokestatic 75, 3) := by decide +kernel
theorem dX9_addArgument_25 : decode cX9_addArgument 25 = .ok (.ifCond .ne 9, 3) := by decide +kernel
theorem dX9_addArgument_28 : decode cX9_addArgument 28 = .ok (.aload_n 0, 1) := by decide +kernel
theorem dX9_addArgument_29 : decode cX9_addArgument 29 = .ok (.iconst 1, 1) := by decide +kernel
theorem dX9_addArgument_30 : decode cX9_addArgument 30 = .ok (.invokevirtual 86, 3) := by decide +kernel
theorem dX9_addArgument_33 : decode cX9_addArgument 33 = .ok (.ireturn, 1) := by decide +kernel
theorem dX9_addArgument_34 : decode cX9_addArgument 34 = .ok (.aload_n 0, 1) := by decide +kernel
theorem dX9_addArgument_35 : decode cX9_addArgument 35 = .ok (.iconst 3, 1) := by decide +kernel
theorem dX9_addArgument_36 : decode cX9_addArgument 36 = .ok (.iload_n 1, 1) := by decide +kernel
theorem dX9_addArgument_37 : decode cX9_addArgument 37 = .ok (.iload_n 2, 1) := by decide +kernel
theorem dX9_addArgument_38 : decode cX9_addArgument 38 = .ok (.iconst (-1), 1) := by decide +kernel
theorem dX9_addArgument_39 : decode cX9_addArgument 39 = .ok (.iconst (-1), 1) := by decide +kernel
theorem dX9_addArgument_40 : decode cX9_addArgument 40 = .ok (.iconst (-1), 1) := by decide +kernel
theorem dX9_addArgument_41 : decode cX9_addArgument 41 = .ok (.iconst 2, 1) := by decide +kernel
theorem dX9_addArgument_42 : decode cX9_addArgument 42 = .ok (.invokevirtual 128, 3) := by decide +kernel
theorem dX9_addArgument_45 : decode cX9_addArgument 45 = .ok (.ireturn, 1) := by decide +kernel
set_option maxRecDepth 20000 in
theorem ggX9_addFieldOf_X9_isExpression : GoodIn wsX9_addFieldOf wsX9_isExpression := goodIn_r _ [7, 8, 9, 10, 6, 11, 27, 28, 29, 30, 31, 32, 33, 34, 35, 36, 37, 38, 39, 40, 41, 42, 43, 44, 45, 46, 47, 48, 49, 50] (by decide +kernel) (by decide +kernel)
set_option maxRecDepth 20000 in
theorem gX9_addFieldOf_X9_isExpression : GoodIn wsX9_addFieldOf (wsV RX9 135 RX9 yX9_isExpression wsX9_isExpression) := goodIn_app (goodIn_of _ (by decide +kernel)) ggX9_addFieldOf_X9_isExpression
set_option maxRecDepth 20000 in
theorem ggX9_addFieldOf_X9_no : GoodIn wsX9_addFieldOf wsX9_no := goodIn_r _ [15, 1, 27, 28, 29, 30, 31, 32, 33, 34, 35, 36, 37, 38, 39, 40, 41, 42, 43, 44, 45, 46, 47, 48, 49, 50] (by decide +kernel) (by decide +kernel)
set_option maxRecDepth 20000 in
theorem gX9_addFieldOf_X9_no : GoodIn wsX9_addFieldOf (wsV RX9 86 RX9 yX9_no wsX9_no) := goodIn_app (goodIn_of _ (by decide +kernel)) ggX9_addFieldOf_X9_no
set_option maxRecDepth 20000 in
theorem ggX9_addFieldOf_X9_isName : GoodIn wsX9_addFieldOf wsX9_isName := goodIn_r _ [18, 9, 10, 6, 11] (by decide +kernel) (by decide +kernel)
set_option maxRecDepth 20000 in
theorem gX9_addFieldOf_X9_isName : GoodIn wsX9_addFieldOf (va_wsS RX9 115 yX9_isName wsX9_isName) := goodIn_app (goodIn_of _ (by decide +kernel)) ggX9_addFieldOf_X9_isName
set_option maxRecDepth 20000 in
theorem ggX9_addFieldOf_X9_addExpression : GoodIn wsX9_addFieldOf wsX9_addExpression := goodIn_r _ [22, 8, 23, 2, 24, 25, 26, 12, 13, 14, 6, 15, 1, 27, 28, 29, 30, 31, 32, 33, 34, 35, 36, 37, 38, 39, 40, 41, 42, 43, 44, 45, 46, 47, 48, 49, 50] (by decide +kernel) (by decide +kernel)
set_option maxRecDepth 20000 in
theorem gX9_addFieldOf_X9_addExpression : GoodIn wsX9_addFieldOf (wsV RX9 128 RX9 yX9_addExpression wsX9_addExpression) := goodIn_app (goodIn_of _ (by decide +kernel)) ggX9_addFieldOf_X9_addExpression
theorem dX9_addFieldOf_0 : decode cX9_addFieldOf 0 = .ok (.aload_n 0, 1) := by decide +kernel
theorem dX9_addFieldOf_1 : decode cX9_addFieldOf 1 = .ok (.iconst 0, 1) := by decide +kernel
theorem dX9_addFieldOf_2 : decode cX9_addFieldOf 2 = .ok (.putfield 71, 3) := by decide +kernel
theorem dX9_addFieldOf_5 : decode cX9_addFieldOf 5 = .ok (.aload_n 0, 1) := by decide +kernel
theorem dX9_addFieldOf_6 : decode cX9_addFieldOf 6 = .ok (.iload_n 1, 1) := by decide +kernel
theorem dX9_addFieldOf_7 : decode cX9_addFieldOf 7 = .ok (.invokevirtual 135, 3) := by decide +kernel
theorem dX9_addFieldOf_10 : decode cX9_addFieldOf 10 = .ok (.ifCond .ne 9, 3) := by decide +kernel
theorem dX9_addFieldOf_13 : decode cX9_addFieldOf 13 = .ok (.aload_n 0, 1) := by decide +kernel
theorem dX9_addFieldOf_14 : decode cX9_addFieldOf 14 = .ok (.iconst 1, 1) := by decide +kernel
theorem dX9_addFieldOf_15 : decode cX9_addFieldOf 15 = .ok (.invokevirtual 86, 3) := by decide +kernel
theorem dX9_addFieldOf_18 : decode cX9_addFieldOf 18 = .ok (.ireturn, 1) := by decide +kernel
theorem dX9_addFieldOf_19 : decode cX9_addFieldOf 19 = .ok (.iload_n 2, 1) := by decide +kernel
theorem dX9_addFieldOf_20 : decode cX9_addFieldOf 20 = .ok (.invokestatic 115, 3) := by decide +kernel
theorem dX9_addFieldOf_23 : decode cX9_addFieldOf 23 = .ok (.ifCond .eq 22, 3) := by decide +kernel
theorem dX9_addFieldOf_26 : decode cX9_addFieldOf 26 = .ok (.aload_n 0, 1) := by decide +kernel
theorem dX9_addFieldOf_27 : decode cX9_addFieldOf 27 = .ok (.iconst 4, 1) := by decide +kernel
theorem dX9_addFieldOf_28 : decode cX9_addFieldOf 28 = .ok (.aload_n 0, 1) := by decide +kernel
theorem dX9_addFieldOf_29 : decode cX9_addFieldOf 29 = .ok (.getfield 56, 3) := by decide +kernel
theorem dX9_addFieldOf_32 : decode cX9_addFieldOf 32 = .ok (.iload_n 1, 1) := by decide +kernel
theorem dX9_addFieldOf_33 : decode cX9_addFieldOf 33 = .ok (.iaload, 1) := by decide +kernel
theorem dX9_addFieldOf_34 : decode cX9_addFieldOf 34 = .ok (.iload_n 2, 1) := by decide +kernel
theorem dX9_addFieldOf_35 : decode cX9_addFieldOf 35 = .ok (.iload_n 1, 1) := by decide +kernel
theorem dX9_addFieldOf_36 : decode cX9_addFieldOf 36 = .ok (.iconst (-1), 1) := by decide +kernel
theorem dX9_addFieldOf_37 : decode cX9_addFieldOf 37 = .ok (.iconst (-1), 1) := by decide +kernel
theorem dX9_addFieldOf_38 : decode cX9_addFieldOf 38 = .ok (.iconst 3, 1) := by decide +kernel
theorem dX9_addFieldOf_39 : decode cX9_addFieldOf 39 = .ok (.invokevirtual 128, 3) := by decide +kernel
theorem dX9_addFieldOf_42 : decode cX9_addFieldOf 42 = .ok (.goto 8, 3) := by decide +kernel
theorem dX9_addFieldOf_45 : decode cX9_addFieldOf 45 = .ok (.aload_n 0, 1) := by decide +kernel
theorem dX9_addFieldOf_46 : decode cX9_addFieldOf 46 = .ok (.iconst 2, 1) := by decide +kernel
theorem dX9_addFieldOf_47 : decode cX9_addFieldOf 47 = .ok (.invokevirtual 86, 3) := by decide +kernel
theorem dX9_addFieldOf_50 : decode cX9_addFieldOf 50 = .ok (.ireturn, 1) := by decide +kernel
set_option maxRecDepth 20000 in
theorem ggX9_addCall_X9_isExpression : GoodIn wsX9_addCall wsX9_isExpression := goodIn_r _ [7, 8, 9, 10, 6, 11, 27, 28, 29, 30, 31, 32, 33, 34, 35, 36, 37, 38, 39, 40, 41, 42, 43, 44, 45, 46, 47, 48, 49, 50] (by decide +kernel) (by decide +kernel)
set_option maxRecDepth 20000 in
theorem gX9_addCall_X9_isExpression : GoodIn wsX9_addCall (wsV RX9 135 RX9 yX9_isExpression wsX9_isExpression) := goodIn_app (goodIn_of _ (by decide +kernel)) ggX9_addCall_X9_isExpression
set_option maxRecDepth 20000 in
theorem ggX9_addCall_X9_no : GoodIn wsX9_addCall wsX9_no := goodIn_r _ [15, 1, 27, 28, 29, 30, 31, 32, 33, 34, 35, 36, 37, 38, 39, 40, 41, 42, 43, 44, 45, 46, 47, 48, 49, 50] (by decide +kernel) (by decide +kernel)
set_option maxRecDepth 20000 in
theorem gX9_addCall_X9_no : GoodIn wsX9_addCall (wsV RX9 86 RX9 yX9_no wsX9_no) := goodIn_app (goodIn_of _ (by decide +kernel)) ggX9_addCall_X9_no
set_option maxRecDepth 20000 in
theorem ggX9_addCall_X9_isName : GoodIn wsX9_addCall wsX9_isName := goodIn_r _ [18, 9, 10, 6, 11] (by decide +kernel) (by decide +kernel)
set_option maxRecDepth 20000 in
theorem gX9_addCall_X9_isName : GoodIn wsX9_addCall (va_wsS RX9 115 yX9_isName wsX9_isName) := goodIn_app (goodIn_of _ (by decide +kernel)) ggX9_addCall_X9_isName
set_option maxRecDepth 20000 in
theorem ggX9_addCall_X9_addExpression : GoodIn wsX9_addCall wsX9_addExpression := goodIn_r _ [22, 8, 23, 2, 24, 25, 26, 12, 13, 14, 6, 15, 1, 27, 28, 29, 30, 31, 32, 33, 34, 35, 36, 37, 38, 39, 40, 41, 42, 43, 44, 45, 46, 47, 48, 49, 50] (by decide +kernel) (by decide +kernel)
set_option maxRecDepth 20000 in
theorem gX9_addCall_X9_addExpression : GoodIn wsX9_addCall (wsV RX9 128 RX9 yX9_addExpression wsX9_addExpression) := goodIn_app (goodIn_of _ (by decide +kernel)) ggX9_addCall_X9_addExpression
theorem dX9_addCall_0 : decode cX9_addCall 0 = .ok (.aload_n 0, 1) := by decide +kernel
theorem dX9_addCall_1 : decode cX9_addCall 1 = .ok (.iconst 0, 1) := by decide +kernel
theorem dX9_addCall_2 : decode cX9_addCall 2 = .ok (.putfield 71, 3) := by decide +kernel
theorem dX9_addCall_5 : decode cX9_addCall 5 = .ok (.aload_n 0, 1) := by decide +kernel
theorem dX9_addCall_6 : decode cX9_addCall 6 = .ok (.iload_n 1, 1) := by decide +kernel
theorem dX9_addCall_7 : decode cX9_addCall 7 = .ok (.invokevirtual 135, 3) := by decide +kernel
theorem dX9_addCall_10 : decode cX9_addCall 10 = .ok (.ifCond .eq 31, 3) := by decide +kernel
theorem dX9_addCall_13 : decode cX9_addCall 13 = .ok (.iload_n 3, 1) := by decide +kernel
theorem dX9_addCall_14 : decode cX9_addCall 14 = .ok (.iconst (-1), 1) := by decide +kernel
theorem dX9_addCall_15 : decode cX9_addCall 15 = .ok (.if_icmp .eq 11, 3) := by decide +kernel
theorem dX9_addCall_18 : decode cX9_addCall 18 = .ok (.aload_n 0, 1) := by decide +kernel
theorem dX9_addCall_19 : decode cX9_addCall 19 = .ok (.iload_n 3, 1) := by decide +kernel
theorem dX9_addCall_20 : decode cX9_addCall 20 = .ok (.invokevirtual 135, 3) := by decide +kernel
theorem dX9_addCall_23 : decode cX9_addCall 23 = .ok (.ifCond .eq 18, 3) := by decide +kernel
theorem dX9_addCall_26 : decode cX9_addCall 26 = .ok (.iload 4, 2) := by decide +kernel
theorem dX9_addCall_28 : decode cX9_addCall 28 = .ok (.iconst (-1), 1) := by decide +kernel
theorem dX9_addCall_29 : decode cX9_addCall 29 = .ok (.if_icmp .eq 18, 3) := by decide +kernel
theorem dX9_addCall_32 : decode cX9_addCall 32 = .ok (.aload_n 0, 1) := by decide +kernel
theorem dX9_addCall_33 : decode cX9_addCall 33 = .ok (.iload 4, 2) := by decide +kernel
theorem dX9_addCall_35 : decode cX9_addCall 35 = .ok (.invokevirtual 135, 3) := by decide +kernel
theorem dX9_addCall_38 : decode cX9_addCall 38 = .ok (.ifCond .ne 9, 3) := by decide +kernel
theorem dX9_addCall_41 : decode cX9_addCall 41 = .ok (.aload_n 0, 1) := by decide +kernel
theorem dX9_addCall_42 : decode cX9_addCall 42 = .ok (.iconst 1, 1) := by decide +kernel
theorem dX9_addCall_43 : decode cX9_addCall 43 = .ok (.invokevirtual 86, 3) := by decide +kernel
theorem dX9_addCall_46 : decode cX9_addCall 46 = .ok (.ireturn, 1) := by decide +kernel
theorem dX9_addCall_47 : decode cX9_addCall 47 = .ok (.iload_n 2, 1) := by decide +kernel
theorem dX9_addCall_48 : decode cX9_addCall 48 = .ok (.invokestatic 115, 3) := by decide +kernel
theorem dX9_addCall_51 : decode cX9_addCall 51 = .ok (.ifCond .eq 60, 3) := by decide +kernel
theorem dX9_addCall_54 : decode cX9_addCall 54 = .ok (.iload_n 3, 1) := by decide +kernel
theorem dX9_addCall_55 : decode cX9_addCall 55 = .ok (.iconst (-1), 1) := by decide +kernel
theorem dX9_addCall_56 : decode cX9_addCall 56 = .ok (.if_icmp .ne 9, 3) := by decide +kernel
theorem dX9_addCall_59 : decode cX9_addCall 59 = .ok (.iload 4, 2) := by decide +kernel
theorem dX9_addCall_61 : decode cX9_addCall 61 = .ok (.iconst (-1), 1) := by decide +kernel
theorem dX9_addCall_62 : decode cX9_addCall 62 = .ok (.if_icmp .ne 49, 3) := by decide +kernel
theorem dX9_addCall_65 : decode cX9_addCall 65 = .ok (.iload_n 3, 1) := by decide +kernel
theorem dX9_addCall_66 : decode cX9_addCall 66 = .ok (.iconst (-1), 1) := by decide +kernel
theorem dX9_addCall_67 : decode cX9_addCall 67 = .ok (.if_icmp .eq 18, 3) := by decide +kernel
theorem dX9_addCall_70 : decode cX9_addCall 70 = .ok (.aload_n 0, 1) := by decide +kernel
theorem dX9_addCall_71 : decode cX9_addCall 71 = .ok (.getfield 56, 3) := by decide +kernel
theorem dX9_addCall_74 : decode cX9_addCall 74 = .ok (.iload_n 3, 1) := by decide +kernel
theorem dX9_addCall_75 : decode cX9_addCall 75 = .ok (.iaload, 1) := by decide +kernel
theorem dX9_addCall_76 : decode cX9_addCall 76 = .ok (.aload_n 0, 1) := by decide +kernel
theorem dX9_addCall_77 : decode cX9_addCall 77 = .ok (.getfield 56, 3) := by decide +kernel
theorem dX9_addCall_80 : decode cX9_addCall 80 = .ok (.iload_n 1, 1) := by decide +kernel
theorem dX9_addCall_81 : decode cX9_addCall 81 = .ok (.iaload, 1) := by decide +kernel
theorem dX9_addCall_82 : decode cX9_addCall 82 = .ok (.if_icmp .ne 29, 3) := by decide +kernel
theorem dX9_addCall_85 : decode cX9_addCall 85 = .ok (.iload 4, 2) := by decide +kernel
theorem dX9_addCall_87 : decode cX9_addCall 87 = .ok (.iconst (-1), 1) := by decide +kernel
theorem dX9_addCall_88 : decode cX9_addCall 88 = .ok (.if_icmp .eq 19, 3) := by decide +kernel
theorem dX9_addCall_91 : decode cX9_addCall 91 = .ok (.aload_n 0, 1) := by decide +kernel
theorem dX9_addCall_92 : decode cX9_addCall 92 = .ok (.getfield 56, 3) := by decide +kernel
theorem dX9_addCall_95 : decode cX9_addCall 95 = .ok (.iload 4, 2) := by decide +kernel
theorem dX9_addCall_97 : decode cX9_addCall 97 = .ok (.iaload, 1) := by decide +kernel
theorem dX9_addCall_98 : decode cX9_addCall 98 = .ok (.aload_n 0, 1) := by decide +kernel
theorem dX9_addCall_99 : decode cX9_addCall 99 = .ok (.getfield 56, 3) := by decide +kernel
theorem dX9_addCall_102 : decode cX9_addCall 102 = .ok (.iload_n 1, 1) := by decide +kernel
theorem dX9_addCall_103 : decode cX9_addCall 103 = .ok (.iaload, 1) := by decide +kernel
theorem dX9_addCall_104 : decode cX9_addCall 104 = .ok (.if_icmp .ne 7, 3) := by decide +kernel
theorem dX9_addCall_107 : decode cX9_addCall 107 = .ok (.iconst 1, 1) := by decide +kernel
theorem dX9_addCall_108 : decode cX9_addCall 108 = .ok (.goto 4, 3) := by decide +kernel
theorem dX9_addCall_111 : decode cX9_addCall 111 = .ok (.iconst 0, 1) := by decide +kernel
theorem dX9_addCall_112 : decode cX9_addCall 112 = .ok (.istore 5, 2) := by decide +kernel
theorem dX9_addCall_114 : decode cX9_addCall 114 = .ok (.iload 5, 2) := by decide +kernel
theorem dX9_addCall_116 : decode cX9_addCall 116 = .ok (.ifCond .eq 23, 3) := by decide +kernel
theorem dX9_addCall_119 : decode cX9_addCall 119 = .ok (.aload_n 0, 1) := by decide +kernel
theorem dX9_addCall_120 : decode cX9_addCall 120 = .ok (.iconst 5, 1) := by decide +kernel
theorem dX9_addCall_121 : decode cX9_addCall 121 = .ok (.aload_n 0, 1) := by decide +kernel
theorem dX9_addCall_122 : decode cX9_addCall 122 = .ok (.getfield 56, 3) := by decide +kernel
theorem dX9_addCall_125 : decode cX9_addCall 125 = .ok (.iload_n 1, 1) := by decide +kernel
theorem dX9_addCall_126 : decode cX9_addCall 126 = .ok (.iaload, 1) := by decide +kernel
theorem dX9_addCall_127 : decode cX9_addCall 127 = .ok (.iload_n 2, 1) := by decide +kernel
theorem dX9_addCall_128 : decode cX9_addCall 128 = .ok (.iload_n 1, 1) := by decide +kernel
theorem dX9_addCall_129 : decode cX9_addCall 129 = .ok (.iload_n 3, 1) := by decide +kernel
theorem dX9_addCall_130 : decode cX9_addCall 130 = .ok (.iload 4, 2) := by decide +kernel
theorem dX9_addCall_132 : decode cX9_addCall 132 = .ok (.iconst 3, 1) := by decide +kernel
theorem dX9_addCall_133 : decode cX9_addCall 133 = .ok (.invokevirtual 128, 3) := by decide +kernel
theorem dX9_addCall_136 : decode cX9_addCall 136 = .ok (.goto 8, 3) := by decide +kernel
theorem dX9_addCall_139 : decode cX9_addCall 139 = .ok (.aload_n 0, 1) := by decide +kernel
theorem dX9_addCall_140 : decode cX9_addCall 140 = .ok (.iconst 2, 1) := by decide +kernel
theorem dX9_addCall_141 : decode cX9_addCall 141 = .ok (.invokevirtual 86, 3) := by decide +kernel
theorem dX9_addCall_144 : decode cX9_addCall 144 = .ok (.ireturn, 1) := by decide +kernel
set_option maxRecDepth 20000 in
theorem ggX9_addResult_X9_isExpression : GoodIn wsX9_addResult wsX9_isExpression := goodIn_r _ [8, 9, 10, 11, 7, 12, 27, 28, 29, 30, 31, 32, 33, 34, 35, 36, 37, 38, 39, 40, 41, 42, 43, 44, 45, 46, 47, 48, 49, 50] (by decide +kernel) (by decide +kernel)
set_option maxRecDepth 20000 in
theorem gX9_addResult_X9_isExpression : GoodIn wsX9_addResult (wsV RX9 135 RX9 yX9_isExpression wsX9_isExpression) := goodIn_app (goodIn_of _ (by decide +kernel)) ggX9_addResult_X9_isExpression
set_option maxRecDepth 20000 in
theorem ggX9_addResult_X9_no : GoodIn wsX9_addResult wsX9_no := goodIn_r _ [16, 1, 27, 28, 29, 30, 31, 32, 33, 34, 35, 36, 37, 38, 39, 40, 41, 42, 43, 44, 45, 46, 47, 48, 49, 50] (by decide +kernel) (by decide +kernel)
set_option maxRecDepth 20000 in
theorem gX9_addResult_X9_no : GoodIn wsX9_addResult (wsV RX9 86 RX9 yX9_no wsX9_no) := goodIn_app (goodIn_of _ (by decide +kernel)) ggX9_addResult_X9_no
set_option maxRecDepth 20000 in
theorem ggX9_addResult_X9_isCondition : GoodIn wsX9_addResult wsX9_isCondition := goodIn_r _ [19, 10, 11, 7, 12] (by decide +kernel) (by decide +kernel)
set_option maxRecDepth 20000 in
theorem gX9_addResult_X9_isCondition : GoodIn wsX9_addResult (va_wsS RX9 108 yX9_isCondition wsX9_isCondition) := goodIn_app (goodIn_of _ (by decide +kernel)) ggX9_addResult_X9_isCondition
set_option maxRecDepth 20000 in
theorem ggX9_addResult_X9_add : GoodIn wsX9_addResult wsX9_add := goodIn_r _ [23, 24, 2, 25, 26, 27, 28, 29, 30, 31, 32, 33, 34, 35, 36, 37, 38, 39, 40, 41, 42, 43, 44, 45, 46, 47, 48, 49, 50] (by decide +kernel) (by decide +kernel)
set_option maxRecDepth 20000 in
theorem gX9_addResult_X9_add : GoodIn wsX9_addResult (wsV RX9 111 RX9 yX9_add wsX9_add) := goodIn_app (goodIn_of _ (by decide +kernel)) ggX9_addResult_X9_add
theorem dX9_addResult_0 : decode cX9_addResult 0 = .ok (.aload_n 0, 1) := by decide +kernel
theorem dX9_addResult_1 : decode cX9_addResult 1 = .ok (.iconst 0, 1) := by decide +kernel
theorem dX9_addResult_2 : decode cX9_addResult 2 = .ok (.putfield 71, 3) := by decide +kernel
theorem dX9_addResult_5 : decode cX9_addResult 5 = .ok (.aload_n 0, 1) := by decide +kernel
theorem dX9_addResult_6 : decode cX9_addResult 6 = .ok (.iload_n 1, 1) := by decide +kernel
theorem dX9_addResult_7 : decode cX9_addResult 7 = .ok (.invokevirtual 135, 3) := by decide +kernel
theorem dX9_addResult_10 : decode cX9_addResult 10 = .ok (.ifCond .ne 9, 3) := by decide +kernel
theorem dX9_addResult_13 : decode cX9_addResult 13 = .ok (.aload_n 0, 1) := by decide +kernel
theorem dX9_addResult_14 : decode cX9_addResult 14 = .ok (.iconst 1, 1) := by decide +kernel
theorem dX9_addResult_15 : decode cX9_addResult 15 = .ok (.invokevirtual 86, 3) := by decide +kernel
theorem dX9_addResult_18 : decode cX9_addResult 18 = .ok (.ireturn, 1) := by decide +kernel
theorem dX9_addResult_19 : decode cX9_addResult 19 = .ok (.iload_n 2, 1) := by decide +kernel
theorem dX9_addResult_20 : decode cX9_addResult 20 = .ok (.iload_n 3, 1) := by decide +kernel
theorem dX9_addResult_21 : decode cX9_addResult 21 = .ok (.invokestatic 108, 3) := by decide +kernel
theorem dX9_addResult_24 : decode cX9_addResult 24 = .ok (.ifCond .ne 9, 3) := by decide +kernel
theorem dX9_addResult_27 : decode cX9_addResult 27 = .ok (.aload_n 0, 1) := by decide +kernel
theorem dX9_addResult_28 : decode cX9_addResult 28 = .ok (.iconst 2, 1) := by decide +kernel
theorem dX9_addResult_29 : decode cX9_addResult 29 = .ok (.invokevirtual 86, 3) := by decide +kernel
theorem dX9_addResult_32 : decode cX9_addResult 32 = .ok (.ireturn, 1) := by decide +kernel
theorem dX9_addResult_33 : decode cX9_addResult 33 = .ok (.aload_n 0, 1) := by decide +kernel
theorem dX9_addResult_34 : decode cX9_addResult 34 = .ok (.getfield 19, 3) := by decide +kernel
theorem dX9_addResult_37 : decode cX9_addResult 37 = .ok (.iconst 3, 1) := by decide +kernel
theorem dX9_addResult_38 : decode cX9_addResult 38 = .ok (.iaload, 1) := by decide +kernel
theorem dX9_addResult_39 : decode cX9_addResult 39 = .ok (.bipush 16, 2) := by decide +kernel
theorem dX9_addResult_41 : decode cX9_addResult 41 = .ok (.if_icmp .ne 9, 3) := by decide +kernel
theorem dX9_addResult_44 : decode cX9_addResult 44 = .ok (.aload_n 0, 1) := by decide +kernel
theorem dX9_addResult_45 : decode cX9_addResult 45 = .ok (.iconst 3, 1) := by decide +kernel
theorem dX9_addResult_46 : decode cX9_addResult 46 = .ok (.invokevirtual 86, 3) := by decide +kernel
theorem dX9_addResult_49 : decode cX9_addResult 49 = .ok (.ireturn, 1) := by decide +kernel
theorem dX9_addResult_50 : decode cX9_addResult 50 = .ok (.aload_n 0, 1) := by decide +kernel
theorem dX9_addResult_51 : decode cX9_addResult 51 = .ok (.getfield 50, 3) := by decide +kernel
theorem dX9_addResult_54 : decode cX9_addResult 54 = .ok (.aload_n 0, 1) := by decide +kernel
theorem dX9_addResult_55 : decode cX9_addResult 55 = .ok (.getfield 19, 3) := by decide +kernel
theorem dX9_addResult_58 : decode cX9_addResult 58 = .ok (.iconst 3, 1) := by decide +kernel
theorem dX9_addResult_59 : decode cX9_addResult 59 = .ok (.iaload, 1) := by decide +kernel
theorem dX9_addResult_60 : decode cX9_addResult 60 = .ok (.iload_n 1, 1) := by decide +kernel
theorem dX9_addResult_61 : decode cX9_addResult 61 = .ok (.iastore, 1) := by decide +kernel
theorem dX9_addResult_62 : decode cX9_addResult 62 = .ok (.aload_n 0, 1) := by decide +kernel
theorem dX9_addResult_63 : decode cX9_addResult 63 = .ok (.iconst 3, 1) := by decide +kernel
theorem dX9_addResult_64 : decode cX9_addResult 64 = .ok (.iload_n 2, 1) := by decide +kernel
theorem dX9_addResult_65 : decode cX9_addResult 65 = .ok (.iload_n 3, 1) := by decide +kernel
theorem dX9_addResult_66 : decode cX9_addResult 66 = .ok (.invokevirtual 111, 3) := by decide +kernel
theorem dX9_addResult_69 : decode cX9_addResult 69 = .ok (.ireturn, 1) := by decide +kernel
set_option maxRecDepth 20000 in
theorem ggX9_setCondition_X9_isElement : GoodIn wsX9_setCondition wsX9_isElement := goodIn_r _ [9, 10, 11, 12, 8, 13, 17, 18, 19, 20, 21, 22, 23, 24, 25, 26, 27, 28, 29, 30, 31, 32, 33, 34, 35, 36, 37, 38, 39, 40] (by decide +kernel) (by decide +kernel)
set_option maxRecDepth 20000 in
theorem gX9_setCondition_X9_isElement : GoodIn wsX9_setCondition (wsV RX9 79 RX9 yX9_isElement wsX9_isElement) := goodIn_app (goodIn_of _ (by decide +kernel)) ggX9_setCondition_X9_isElement
set_option maxRecDepth 20000 in
theorem ggX9_setCondition_X9_isCondition : GoodIn wsX9_setCondition wsX9_isCondition := goodIn_r _ [16, 11, 12, 8, 13] (by decide +kernel) (by decide +kernel)
set_option maxRecDepth 20000 in
theorem gX9_setCondition_X9_isCondition : GoodIn wsX9_setCondition (va_wsS RX9 108 yX9_isCondition wsX9_isCondition) := goodIn_app (goodIn_of _ (by decide +kernel)) ggX9_setCondition_X9_isCondition
theorem dX9_setCondition_0 : decode cX9_setCondition 0 = .ok (.aload_n 0, 1) := by decide +kernel
theorem dX9_setCondition_1 : decode cX9_setCondition 1 = .ok (.aload_n 0, 1) := by decide +kernel
theorem dX9_setCondition_2 : decode cX9_setCondition 2 = .ok (.iload_n 1, 1) := by decide +kernel
theorem dX9_setCondition_3 : decode cX9_setCondition 3 = .ok (.iload_n 2, 1) := by decide +kernel
theorem dX9_setCondition_4 : decode cX9_setCondition 4 = .ok (.invokevirtual 79, 3) := by decide +kernel
theorem dX9_setCondition_7 : decode cX9_setCondition 7 = .ok (.ifCond .ne 7, 3) := by decide +kernel
theorem dX9_setCondition_10 : decode cX9_setCondition 10 = .ok (.iconst 1, 1) := by decide +kernel
theorem dX9_setCondition_11 : decode cX9_setCondition 11 = .ok (.goto 17, 3) := by decide +kernel
theorem dX9_setCondition_14 : decode cX9_setCondition 14 = .ok (.iload_n 3, 1) := by decide +kernel
theorem dX9_setCondition_15 : decode cX9_setCondition 15 = .ok (.iload 4, 2) := by decide +kernel
theorem dX9_setCondition_17 : decode cX9_setCondition 17 = .ok (.invokestatic 108, 3) := by decide +kernel
theorem dX9_setCondition_20 : decode cX9_setCondition 20 = .ok (.ifCond .ne 7, 3) := by decide +kernel
theorem dX9_setCondition_23 : decode cX9_setCondition 23 = .ok (.iconst 2, 1) := by decide +kernel
theorem dX9_setCondition_24 : decode cX9_setCondition 24 = .ok (.goto 4, 3) := by decide +kernel
theorem dX9_setCondition_27 : decode cX9_setCondition 27 = .ok (.iconst 0, 1) := by decide +kernel
theorem dX9_setCondition_28 : decode cX9_setCondition 28 = .ok (.putfield 71, 3) := by decide +kernel
theorem dX9_setCondition_31 : decode cX9_setCondition 31 = .ok (.aload_n 0, 1) := by decide +kernel
theorem dX9_setCondition_32 : decode cX9_setCondition 32 = .ok (.getfield 71, 3) := by decide +kernel
theorem dX9_setCondition_35 : decode cX9_setCondition 35 = .ok (.ifCond .eq 5, 3) := by decide +kernel
theorem dX9_setCondition_38 : decode cX9_setCondition 38 = .ok (.iconst 0, 1) := by decide +kernel
theorem dX9_setCondition_39 : decode cX9_setCondition 39 = .ok (.ireturn, 1) := by decide +kernel
theorem dX9_setCondition_40 : decode cX9_setCondition 40 = .ok (.bipush 24, 2) := by decide +kernel
theorem dX9_setCondition_42 : decode cX9_setCondition 42 = .ok (.iload_n 1, 1) := by decide +kernel
theorem dX9_setCondition_43 : decode cX9_setCondition 43 = .ok (.imul, 1) := by decide +kernel
theorem dX9_setCondition_44 : decode cX9_setCondition 44 = .ok (.iload_n 2, 1) := by decide +kernel
theorem dX9_setCondition_45 : decode cX9_setCondition 45 = .ok (.iadd, 1) := by decide +kernel
theorem dX9_setCondition_46 : decode cX9_setCondition 46 = .ok (.istore 5, 2) := by decide +kernel
theorem dX9_setCondition_48 : decode cX9_setCondition 48 = .ok (.aload_n 0, 1) := by decide +kernel
theorem dX9_setCondition_49 : decode cX9_setCondition 49 = .ok (.getfield 22, 3) := by decide +kernel
theorem dX9_setCondition_52 : decode cX9_setCondition 52 = .ok (.iload 5, 2) := by decide +kernel
theorem dX9_setCondition_54 : decode cX9_setCondition 54 = .ok (.iaload, 1) := by decide +kernel
theorem dX9_setCondition_55 : decode cX9_setCondition 55 = .ok (.iload_n 3, 1) := by decide +kernel
theorem dX9_setCondition_56 : decode cX9_setCondition 56 = .ok (.if_icmp .ne 15, 3) := by decide +kernel
theorem dX9_setCondition_59 : decode cX9_setCondition 59 = .ok (.aload_n 0, 1) := by decide +kernel
theorem dX9_setCondition_60 : decode cX9_setCondition 60 = .ok (.getfield 25, 3) := by decide +kernel
theorem dX9_setCondition_63 : decode cX9_setCondition 63 = .ok (.iload 5, 2) := by decide +kernel
theorem dX9_setCondition_65 : decode cX9_setCondition 65 = .ok (.iaload, 1) := by decide +kernel
theorem dX9_setCondition_66 : decode cX9_setCondition 66 = .ok (.iload 4, 2) := by decide +kernel
theorem dX9_setCondition_68 : decode cX9_setCondition 68 = .ok (.if_icmp .eq 7, 3) := by decide +kernel
theorem dX9_setCondition_71 : decode cX9_setCondition 71 = .ok (.iconst 1, 1) := by decide +kernel
theorem dX9_setCondition_72 : decode cX9_setCondition 72 = .ok (.goto 4, 3) := by decide +kernel
theorem dX9_setCondition_75 : decode cX9_setCondition 75 = .ok (.iconst 0, 1) := by decide +kernel
theorem dX9_setCondition_76 : decode cX9_setCondition 76 = .ok (.istore 6, 2) := by decide +kernel
theorem dX9_setCondition_78 : decode cX9_setCondition 78 = .ok (.aload_n 0, 1) := by decide +kernel
theorem dX9_setCondition_79 : decode cX9_setCondition 79 = .ok (.getfield 22, 3) := by decide +kernel
theorem dX9_setCondition_82 : decode cX9_setCondition 82 = .ok (.iload 5, 2) := by decide +kernel
theorem dX9_setCondition_84 : decode cX9_setCondition 84 = .ok (.iload_n 3, 1) := by decide +kernel
theorem dX9_setCondition_85 : decode cX9_setCondition 85 = .ok (.iastore, 1) := by decide +kernel
theorem dX9_setCondition_86 : decode cX9_setCondition 86 = .ok (.aload_n 0, 1) := by decide +kernel
theorem dX9_setCondition_87 : decode cX9_setCondition 87 = .ok (.getfield 25, 3) := by decide +kernel
theorem dX9_setCondition_90 : decode cX9_setCondition 90 = .ok (.iload 5, 2) := by decide +kernel
theorem dX9_setCondition_92 : decode cX9_setCondition 92 = .ok (.iload 4, 2) := by decide +kernel
theorem dX9_setCondition_94 : decode cX9_setCondition 94 = .ok (.iastore, 1) := by decide +kernel
theorem dX9_setCondition_95 : decode cX9_setCondition 95 = .ok (.aload_n 0, 1) := by decide +kernel
theorem dX9_setCondition_96 : decode cX9_setCondition 96 = .ok (.iconst 0, 1) := by decide +kernel
theorem dX9_setCondition_97 : decode cX9_setCondition 97 = .ok (.putfield 93, 3) := by decide +kernel
theorem dX9_setCondition_100 : decode cX9_setCondition 100 = .ok (.iload 6, 2) := by decide +kernel
theorem dX9_setCondition_102 : decode cX9_setCondition 102 = .ok (.ireturn, 1) := by decide +kernel
set_option maxRecDepth 20000 in
theorem ggX9_dropResult_X9_no : GoodIn wsX9_dropResult wsX9_no := goodIn_r _ [8, 1, 9, 10, 11, 12, 13, 14, 15, 16, 17, 18, 19, 20, 21, 22, 23, 24, 25, 26, 27, 28, 29, 30, 31, 32] (by decide +kernel) (by decide +kernel)
set_option maxRecDepth 20000 in
theorem gX9_dropResult_X9_no : GoodIn wsX9_dropResult (wsV RX9 86 RX9 yX9_no wsX9_no) := goodIn_app (goodIn_of _ (by decide +kernel)) ggX9_dropResult_X9_no
theorem dX9_dropResult_0 : decode cX9_dropResult 0 = .ok (.aload_n 0, 1) := by decide +kernel
theorem dX9_dropResult_1 : decode cX9_dropResult 1 = .ok (.iconst 0, 1) := by decide +kernel
theorem dX9_dropResult_2 : decode cX9_dropResult 2 = .ok (.putfield 71, 3) := by decide +kernel
theorem dX9_dropResult_5 : decode cX9_dropResult 5 = .ok (.aload_n 0, 1) := by decide +kernel
theorem dX9_dropResult_6 : decode cX9_dropResult 6 = .ok (.getfield 19, 3) := by decide +kernel
theorem dX9_dropResult_9 : decode cX9_dropResult 9 = .ok (.iconst 3, 1) := by decide +kernel
theorem dX9_dropResult_10 : decode cX9_dropResult 10 = .ok (.iaload, 1) := by decide +kernel
theorem dX9_dropResult_11 : decode cX9_dropResult 11 = .ok (.ifCond .ne 9, 3) := by decide +kernel
theorem dX9_dropResult_14 : decode cX9_dropResult 14 = .ok (.aload_n 0, 1) := by decide +kernel
theorem dX9_dropResult_15 : decode cX9_dropResult 15 = .ok (.iconst 1, 1) := by decide +kernel
theorem dX9_dropResult_16 : decode cX9_dropResult 16 = .ok (.invokevirtual 86, 3) := by decide +kernel
theorem dX9_dropResult_19 : decode cX9_dropResult 19 = .ok (.ireturn, 1) := by decide +kernel
theorem dX9_dropResult_20 : decode cX9_dropResult 20 = .ok (.aload_n 0, 1) := by decide +kernel
theorem dX9_dropResult_21 : decode cX9_dropResult 21 = .ok (.getfield 19, 3) := by decide +kernel
theorem dX9_dropResult_24 : decode cX9_dropResult 24 = .ok (.iconst 3, 1) := by decide +kernel
theorem dX9_dropResult_25 : decode cX9_dropResult 25 = .ok (.dup2, 1) := by decide +kernel
theorem dX9_dropResult_26 : decode cX9_dropResult 26 = .ok (.iaload, 1) := by decide +kernel
theorem dX9_dropResult_27 : decode cX9_dropResult 27 = .ok (.iconst 1, 1) := by decide +kernel
theorem dX9_dropResult_28 : decode cX9_dropResult 28 = .ok (.isub, 1) := by decide +kernel
theorem dX9_dropResult_29 : decode cX9_dropResult 29 = .ok (.iastore, 1) := by decide +kernel
theorem dX9_dropResult_30 : decode cX9_dropResult 30 = .ok (.aload_n 0, 1) := by decide +kernel
theorem dX9_dropResult_31 : decode cX9_dropResult 31 = .ok (.iconst 0, 1) := by decide +kernel
theorem dX9_dropResult_32 : decode cX9_dropResult 32 = .ok (.putfield 93, 3) := by decide +kernel
theorem dX9_dropResult_35 : decode cX9_dropResult 35 = .ok (.aload_n 0, 1) := by decide +kernel
theorem dX9_dropResult_36 : decode cX9_dropResult 36 = .ok (.getfield 19, 3) := by decide +kernel
theorem dX9_dropResult_39 : decode cX9_dropResult 39 = .ok (.iconst 3, 1) := by decide +kernel
theorem dX9_dropResult_40 : decode cX9_dropResult 40 = .ok (.iaload, 1) := by decide +kernel
theorem dX9_dropResult_41 : decode cX9_dropResult 41 = .ok (.ireturn, 1) := by decide +kernel
set_option maxRecDepth 20000 in
theorem ggX9_count_X9_isIn : GoodIn wsX9_count wsX9_isIn := goodIn_r _ [7] (by decide +kernel) (by decide +kernel)
set_option maxRecDepth 20000 in
theorem gX9_count_X9_isIn : GoodIn wsX9_count (va_wsS RX9 75 yX9_isIn wsX9_isIn) := goodIn_app (goodIn_of _ (by decide +kernel)) ggX9_count_X9_isIn
set_option maxRecDepth 20000 in
theorem ggX9_count_X9_no : GoodIn wsX9_count wsX9_no := goodIn_r _ [11, 1, 12, 13, 14, 15, 16, 17, 18, 19, 20, 21, 22, 23, 24, 25, 26, 27, 28, 29, 30, 31, 32, 33, 34, 35] (by decide +kernel) (by decide +kernel)
set_option maxRecDepth 20000 in
theorem gX9_count_X9_no : GoodIn wsX9_count (wsV RX9 86 RX9 yX9_no wsX9_no) := goodIn_app (goodIn_of _ (by decide +kernel)) ggX9_count_X9_no
theorem dX9_count_0 : decode cX9_count 0 = .ok (.aload_n 0, 1) := by decide +kernel
theorem dX9_count_1 : decode cX9_count 1 = .ok (.iconst 0, 1) := by decide +kernel
theorem dX9_count_2 : decode cX9_count 2 = .ok (.putfield 71, 3) := by decide +kernel
theorem dX9_count_5 : decode cX9_count 5 = .ok (.iload_n 1, 1) := by decide +kernel
theorem dX9_count_6 : decode cX9_count 6 = .ok (.iconst 0, 1) := by decide +kernel
theorem dX9_count_7 : decode cX9_count 7 = .ok (.iconst 4, 1) := by decide +kernel
theorem dX9_count_8 : decode cX9_count 8 = .ok (.invokestatic 75, 3) := by decide +kernel
theorem dX9_count_11 : decode cX9_count 11 = .ok (.ifCond .ne 9, 3) := by decide +kernel
theorem dX9_count_14 : decode cX9_count 14 = .ok (.aload_n 0, 1) := by decide +kernel
theorem dX9_count_15 : decode cX9_count 15 = .ok (.iconst 1, 1) := by decide +kernel
theorem dX9_count_16 : decode cX9_count 16 = .ok (.invokevirtual 86, 3) := by decide +kernel
theorem dX9_count_19 : decode cX9_count 19 = .ok (.ireturn, 1) := by decide +kernel
theorem dX9_count_20 : decode cX9_count 20 = .ok (.iload_n 1, 1) := by decide +kernel
theorem dX9_count_21 : decode cX9_count 21 = .ok (.iconst 4, 1) := by decide +kernel
theorem dX9_count_22 : decode cX9_count 22 = .ok (.if_icmp .ne 10, 3) := by decide +kernel
theorem dX9_count_25 : decode cX9_count 25 = .ok (.aload_n 0, 1) := by decide +kernel
theorem dX9_count_26 : decode cX9_count 26 = .ok (.getfield 83, 3) := by decide +kernel
theorem dX9_count_29 : decode cX9_count 29 = .ok (.goto 9, 3) := by decide +kernel
theorem dX9_count_32 : decode cX9_count 32 = .ok (.aload_n 0, 1) := by decide +kernel
theorem dX9_count_33 : decode cX9_count 33 = .ok (.getfield 19, 3) := by decide +kernel
theorem dX9_count_36 : decode cX9_count 36 = .ok (.iload_n 1, 1) := by decide +kernel
theorem dX9_count_37 : decode cX9_count 37 = .ok (.iaload, 1) := by decide +kernel
theorem dX9_count_38 : decode cX9_count 38 = .ok (.ireturn, 1) := by decide +kernel
theorem dX9_isMeant_0 : decode cX9_isMeant 0 = .ok (.bipush 24, 2) := by decide +kernel
theorem dX9_isMeant_2 : decode cX9_isMeant 2 = .ok (.iload_n 1, 1) := by decide +kernel
theorem dX9_isMeant_3 : decode cX9_isMeant 3 = .ok (.imul, 1) := by decide +kernel
theorem dX9_isMeant_4 : decode cX9_isMeant 4 = .ok (.iload_n 2, 1) := by decide +kernel
theorem dX9_isMeant_5 : decode cX9_isMeant 5 = .ok (.iadd, 1) := by decide +kernel
theorem dX9_isMeant_6 : decode cX9_isMeant 6 = .ok (.istore 4, 2) := by decide +kernel
theorem dX9_isMeant_8 : decode cX9_isMeant 8 = .ok (.aload_n 0, 1) := by decide +kernel
theorem dX9_isMeant_9 : decode cX9_isMeant 9 = .ok (.getfield 22, 3) := by decide +kernel
theorem dX9_isMeant_12 : decode cX9_isMeant 12 = .ok (.iload 4, 2) := by decide +kernel
theorem dX9_isMeant_14 : decode cX9_isMeant 14 = .ok (.iaload, 1) := by decide +kernel
theorem dX9_isMeant_15 : decode cX9_isMeant 15 = .ok (.iload_n 3, 1) := by decide +kernel
theorem dX9_isMeant_16 : decode cX9_isMeant 16 = .ok (.iconst (-1), 1) := by decide +kernel
theorem dX9_isMeant_17 : decode cX9_isMeant 17 = .ok (.ixor, 1) := by decide +kernel
theorem dX9_isMeant_18 : decode cX9_isMeant 18 = .ok (.iand, 1) := by decide +kernel
theorem dX9_isMeant_19 : decode cX9_isMeant 19 = .ok (.ifCond .ne 19, 3) := by decide +kernel
theorem dX9_isMeant_22 : decode cX9_isMeant 22 = .ok (.aload_n 0, 1) := by decide +kernel
theorem dX9_isMeant_23 : decode cX9_isMeant 23 = .ok (.getfield 25, 3) := by decide +kernel
theorem dX9_isMeant_26 : decode cX9_isMeant 26 = .ok (.iload 4, 2) := by decide +kernel
theorem dX9_isMeant_28 : decode cX9_isMeant 28 = .ok (.iaload, 1) := by decide +kernel
theorem dX9_isMeant_29 : decode cX9_isMeant 29 = .ok (.iload_n 3, 1) := by decide +kernel
theorem dX9_isMeant_30 : decode cX9_isMeant 30 = .ok (.iand, 1) := by decide +kernel
theorem dX9_isMeant_31 : decode cX9_isMeant 31 = .ok (.ifCond .ne 7, 3) := by decide +kernel
theorem dX9_isMeant_34 : decode cX9_isMeant 34 = .ok (.iconst 1, 1) := by decide +kernel
theorem dX9_isMeant_35 : decode cX9_isMeant 35 = .ok (.goto 4, 3) := by decide +kernel
theorem dX9_isMeant_38 : decode cX9_isMeant 38 = .ok (.iconst 0, 1) := by decide +kernel
theorem dX9_isMeant_39 : decode cX9_isMeant 39 = .ok (.ireturn, 1) := by decide +kernel
set_option maxRecDepth 20000 in
theorem ggX9_is_X9_isMeant : GoodIn wsX9_is wsX9_isMeant := goodIn_r _ [10, 11, 12, 16, 17, 18, 19, 20, 21, 22, 23, 24, 25, 26, 27, 28, 29, 30, 31, 32, 33, 34, 35, 36, 37, 38, 39] (by decide +kernel) (by decide +kernel)
set_option maxRecDepth 20000 in
theorem gX9_is_X9_isMeant : GoodIn wsX9_is (wsV RX9 138 RX9 yX9_isMeant wsX9_isMeant) := goodIn_app (goodIn_of _ (by decide +kernel)) ggX9_is_X9_isMeant
set_option maxRecDepth 20000 in
theorem ggX9_is_X9_is : GoodIn wsX9_is wsX9_is := goodIn_r _ [0, 1, 2, 3, 4, 5, 6, 7, 8, 9, 10, 11, 12, 13, 14, 15, 16, 17, 18, 19, 20, 21, 22, 23, 24, 25, 26, 27, 28, 29, 30, 31, 32, 33, 34, 35, 36, 37, 38, 39] (by decide +kernel) (by decide +kernel)
set_option maxRecDepth 20000 in
theorem gX9_is_X9_is : GoodIn wsX9_is (wsV RX9 141 RX9 yX9_is wsX9_is) := goodIn_app (goodIn_of _ (by decide +kernel)) ggX9_is_X9_is
theorem dX9_is_0 : decode cX9_is 0 = .ok (.aload_n 0, 1) := by decide +kernel
theorem dX9_is_1 : decode cX9_is 1 = .ok (.iload_n 1, 1) := by decide +kernel
theorem dX9_is_2 : decode cX9_is 2 = .ok (.iload_n 2, 1) := by decide +kernel
theorem dX9_is_3 : decode cX9_is 3 = .ok (.iload_n 3, 1) := by decide +kernel
theorem dX9_is_4 : decode cX9_is 4 = .ok (.invokevirtual 138, 3) := by decide +kernel
theorem dX9_is_7 : decode cX9_is 7 = .ok (.ifCond .ne 5, 3) := by decide +kernel
theorem dX9_is_10 : decode cX9_is 10 = .ok (.iconst 0, 1) := by decide +kernel
theorem dX9_is_11 : decode cX9_is 11 = .ok (.ireturn, 1) := by decide +kernel
theorem dX9_is_12 : decode cX9_is 12 = .ok (.iload_n 1, 1) := by decide +kernel
theorem dX9_is_13 : decode cX9_is 13 = .ok (.iconst 1, 1) := by decide +kernel
theorem dX9_is_14 : decode cX9_is 14 = .ok (.if_icmp .ne 39, 3) := by decide +kernel
theorem dX9_is_17 : decode cX9_is 17 = .ok (.aload_n 0, 1) := by decide +kernel
theorem dX9_is_18 : decode cX9_is 18 = .ok (.iconst 0, 1) := by decide +kernel
theorem dX9_is_19 : decode cX9_is 19 = .ok (.aload_n 0, 1) := by decide +kernel
theorem dX9_is_20 : decode cX9_is 20 = .ok (.getfield 28, 3) := by decide +kernel
theorem dX9_is_23 : decode cX9_is 23 = .ok (.iload_n 2, 1) := by decide +kernel
theorem dX9_is_24 : decode cX9_is 24 = .ok (.iaload, 1) := by decide +kernel
theorem dX9_is_25 : decode cX9_is 25 = .ok (.iload_n 3, 1) := by decide +kernel
theorem dX9_is_26 : decode cX9_is 26 = .ok (.invokevirtual 138, 3) := by decide +kernel
theorem dX9_is_29 : decode cX9_is 29 = .ok (.ifCond .eq 22, 3) := by decide +kernel
theorem dX9_is_32 : decode cX9_is 32 = .ok (.aload_n 0, 1) := by decide +kernel
theorem dX9_is_33 : decode cX9_is 33 = .ok (.iconst 0, 1) := by decide +kernel
theorem dX9_is_34 : decode cX9_is 34 = .ok (.aload_n 0, 1) := by decide +kernel
theorem dX9_is_35 : decode cX9_is 35 = .ok (.getfield 31, 3) := by decide +kernel
theorem dX9_is_38 : decode cX9_is 38 = .ok (.iload_n 2, 1) := by decide +kernel
theorem dX9_is_39 : decode cX9_is 39 = .ok (.iaload, 1) := by decide +kernel
theorem dX9_is_40 : decode cX9_is 40 = .ok (.iload_n 3, 1) := by decide +kernel
theorem dX9_is_41 : decode cX9_is 41 = .ok (.invokevirtual 138, 3) := by decide +kernel
theorem dX9_is_44 : decode cX9_is 44 = .ok (.ifCond .eq 7, 3) := by decide +kernel
theorem dX9_is_47 : decode cX9_is 47 = .ok (.iconst 1, 1) := by decide +kernel
theorem dX9_is_48 : decode cX9_is 48 = .ok (.goto 4, 3) := by decide +kernel
theorem dX9_is_51 : decode cX9_is 51 = .ok (.iconst 0, 1) := by decide +kernel
theorem dX9_is_52 : decode cX9_is 52 = .ok (.ireturn, 1) := by decide +kernel
theorem dX9_is_53 : decode cX9_is 53 = .ok (.iload_n 1, 1) := by decide +kernel
theorem dX9_is_54 : decode cX9_is 54 = .ok (.iconst 2, 1) := by decide +kernel
theorem dX9_is_55 : decode cX9_is 55 = .ok (.if_icmp .ne 16, 3) := by decide +kernel
theorem dX9_is_58 : decode cX9_is 58 = .ok (.aload_n 0, 1) := by decide +kernel
theorem dX9_is_59 : decode cX9_is 59 = .ok (.iconst 0, 1) := by decide +kernel
theorem dX9_is_60 : decode cX9_is 60 = .ok (.aload_n 0, 1) := by decide +kernel
theorem dX9_is_61 : decode cX9_is 61 = .ok (.getfield 38, 3) := by decide +kernel
theorem dX9_is_64 : decode cX9_is 64 = .ok (.iload_n 2, 1) := by decide +kernel
theorem dX9_is_65 : decode cX9_is 65 = .ok (.iaload, 1) := by decide +kernel
theorem dX9_is_66 : decode cX9_is 66 = .ok (.iload_n 3, 1) := by decide +kernel
theorem dX9_is_67 : decode cX9_is 67 = .ok (.invokevirtual 138, 3) := by decide +kernel
theorem dX9_is_70 : decode cX9_is 70 = .ok (.ireturn, 1) := by decide +kernel
theorem dX9_is_71 : decode cX9_is 71 = .ok (.iload_n 1, 1) := by decide +kernel
theorem dX9_is_72 : decode cX9_is 72 = .ok (.ifCond .eq 23, 3) := by decide +kernel
theorem dX9_is_75 : decode cX9_is 75 = .ok (.aload_n 0, 1) := by decide +kernel
theorem dX9_is_76 : decode cX9_is 76 = .ok (.iconst 2, 1) := by decide +kernel
theorem dX9_is_77 : decode cX9_is 77 = .ok (.aload_n 0, 1) := by decide +kernel
theorem dX9_is_78 : decode cX9_is 78 = .ok (.getfield 56, 3) := by decide +kernel
theorem dX9_is_81 : decode cX9_is 81 = .ok (.aload_n 0, 1) := by decide +kernel
theorem dX9_is_82 : decode cX9_is 82 = .ok (.getfield 50, 3) := by decide +kernel
theorem dX9_is_85 : decode cX9_is 85 = .ok (.iload_n 2, 1) := by decide +kernel
theorem dX9_is_86 : decode cX9_is 86 = .ok (.iaload, 1) := by decide +kernel
theorem dX9_is_87 : decode cX9_is 87 = .ok (.iaload, 1) := by decide +kernel
theorem dX9_is_88 : decode cX9_is 88 = .ok (.iload_n 3, 1) := by decide +kernel
theorem dX9_is_89 : decode cX9_is 89 = .ok (.invokevirtual 141, 3) := by decide +kernel
theorem dX9_is_92 : decode cX9_is 92 = .ok (.ifCond .eq 7, 3) := by decide +kernel
theorem dX9_is_95 : decode cX9_is 95 = .ok (.iconst 1, 1) := by decide +kernel
theorem dX9_is_96 : decode cX9_is 96 = .ok (.goto 4, 3) := by decide +kernel
theorem dX9_is_99 : decode cX9_is 99 = .ok (.iconst 0, 1) := by decide +kernel
theorem dX9_is_100 : decode cX9_is 100 = .ok (.ireturn, 1) := by decide +kernel
set_option maxRecDepth 20000 in
theorem ggX9_parentOf_X9_is : GoodIn wsX9_parentOf wsX9_is := goodIn_r _ [8, 2, 3, 9, 10, 11, 12, 13, 14, 7, 15, 16, 17, 4, 5, 6, 18, 19, 20, 21, 22, 23, 24, 25, 26, 27, 28, 29, 30, 31, 32, 33, 34, 35, 36, 37, 38, 39, 40, 41] (by decide +kernel) (by decide +kernel)
set_option maxRecDepth 20000 in
theorem gX9_parentOf_X9_is : GoodIn wsX9_parentOf (wsV RX9 141 RX9 yX9_is wsX9_is) := goodIn_app (goodIn_of _ (by decide +kernel)) ggX9_parentOf_X9_is
theorem dX9_parentOf_0 : decode cX9_parentOf 0 = .ok (.iconst 0, 1) := by decide +kernel
theorem dX9_parentOf_1 : decode cX9_parentOf 1 = .ok (.istore_n 3, 1) := by decide +kernel
theorem dX9_parentOf_2 : decode cX9_parentOf 2 = .ok (.iload_n 3, 1) := by decide +kernel
theorem dX9_parentOf_3 : decode cX9_parentOf 3 = .ok (.aload_n 0, 1) := by decide +kernel
theorem dX9_parentOf_4 : decode cX9_parentOf 4 = .ok (.getfield 19, 3) := by decide +kernel
theorem dX9_parentOf_7 : decode cX9_parentOf 7 = .ok (.iconst 1, 1) := by decide +kernel
theorem dX9_parentOf_8 : decode cX9_parentOf 8 = .ok (.iaload, 1) := by decide +kernel
theorem dX9_parentOf_9 : decode cX9_parentOf 9 = .ok (.if_icmp .ge 36, 3) := by decide +kernel
theorem dX9_parentOf_12 : decode cX9_parentOf 12 = .ok (.aload_n 0, 1) := by decide +kernel
theorem dX9_parentOf_13 : decode cX9_parentOf 13 = .ok (.getfield 28, 3) := by decide +kernel
theorem dX9_parentOf_16 : decode cX9_parentOf 16 = .ok (.iload_n 3, 1) := by decide +kernel
theorem dX9_parentOf_17 : decode cX9_parentOf 17 = .ok (.iaload, 1) := by decide +kernel
theorem dX9_parentOf_18 : decode cX9_parentOf 18 = .ok (.iload_n 1, 1) := by decide +kernel
theorem dX9_parentOf_19 : decode cX9_parentOf 19 = .ok (.if_icmp .ne 20, 3) := by decide +kernel
theorem dX9_parentOf_22 : decode cX9_parentOf 22 = .ok (.aload_n 0, 1) := by decide +kernel
theorem dX9_parentOf_23 : decode cX9_parentOf 23 = .ok (.iconst 1, 1) := by decide +kernel
theorem dX9_parentOf_24 : decode cX9_parentOf 24 = .ok (.iload_n 3, 1) := by decide +kernel
theorem dX9_parentOf_25 : decode cX9_parentOf 25 = .ok (.iload_n 2, 1) := by decide +kernel
theorem dX9_parentOf_26 : decode cX9_parentOf 26 = .ok (.invokevirtual 141, 3) := by decide +kernel
theorem dX9_parentOf_29 : decode cX9_parentOf 29 = .ok (.ifCond .eq 10, 3) := by decide +kernel
theorem dX9_parentOf_32 : decode cX9_parentOf 32 = .ok (.aload_n 0, 1) := by decide +kernel
theorem dX9_parentOf_33 : decode cX9_parentOf 33 = .ok (.getfield 31, 3) := by decide +kernel
theorem dX9_parentOf_36 : decode cX9_parentOf 36 = .ok (.iload_n 3, 1) := by decide +kernel
theorem dX9_parentOf_37 : decode cX9_parentOf 37 = .ok (.iaload, 1) := by decide +kernel
theorem dX9_parentOf_38 : decode cX9_parentOf 38 = .ok (.ireturn, 1) := by decide +kernel
theorem dX9_parentOf_39 : decode cX9_parentOf 39 = .ok (.iinc 3 1, 3) := by decide +kernel
theorem dX9_parentOf_42 : decode cX9_parentOf 42 = .ok (.goto (-40), 3) := by decide +kernel
theorem dX9_parentOf_45 : decode cX9_parentOf 45 = .ok (.iconst (-1), 1) := by decide +kernel
theorem dX9_parentOf_46 : decode cX9_parentOf 46 = .ok (.ireturn, 1) := by decide +kernel
set_option maxRecDepth 20000 in
theorem ggX9_below_X9_parentOf : GoodIn wsX9_below wsX9_parentOf := goodIn_r _ [5, 6, 7, 8, 9, 10, 11, 4, 12, 13, 14, 15, 16, 17, 18, 19, 20, 21, 22, 23, 24, 25, 26, 27, 28, 29, 30, 31, 32, 33, 34, 35, 36, 37, 38, 39, 40, 41, 42, 43, 44, 45] (by decide +kernel) (by decide +kernel)
set_option maxRecDepth 20000 in
theorem gX9_below_X9_parentOf : GoodIn wsX9_below (wsV RX9 144 RX9 yX9_parentOf wsX9_parentOf) := goodIn_app (goodIn_of _ (by decide +kernel)) ggX9_below_X9_parentOf
theorem dX9_below_0 : decode cX9_below 0 = .ok (.aload_n 0, 1) := by decide +kernel
theorem dX9_below_1 : decode cX9_below 1 = .ok (.iload_n 1, 1) := by decide +kernel
theorem dX9_below_2 : decode cX9_below 2 = .ok (.iload_n 3, 1) := by decide +kernel
theorem dX9_below_3 : decode cX9_below 3 = .ok (.invokevirtual 144, 3) := by decide +kernel
theorem dX9_below_6 : decode cX9_below 6 = .ok (.istore 4, 2) := by decide +kernel
theorem dX9_below_8 : decode cX9_below 8 = .ok (.iconst 0, 1) := by decide +kernel
theorem dX9_below_9 : decode cX9_below 9 = .ok (.istore 5, 2) := by decide +kernel
theorem dX9_below_11 : decode cX9_below 11 = .ok (.iload 5, 2) := by decide +kernel
theorem dX9_below_13 : decode cX9_below 13 = .ok (.bipush 8, 2) := by decide +kernel
theorem dX9_below_15 : decode cX9_below 15 = .ok (.if_icmp .ge 32, 3) := by decide +kernel
theorem dX9_below_18 : decode cX9_below 18 = .ok (.iload 4, 2) := by decide +kernel
theorem dX9_below_20 : decode cX9_below 20 = .ok (.iconst (-1), 1) := by decide +kernel
theorem dX9_below_21 : decode cX9_below 21 = .ok (.if_icmp .eq 26, 3) := by decide +kernel
theorem dX9_below_24 : decode cX9_below 24 = .ok (.iload 4, 2) := by decide +kernel
theorem dX9_below_26 : decode cX9_below 26 = .ok (.iload_n 2, 1) := by decide +kernel
theorem dX9_below_27 : decode cX9_below 27 = .ok (.if_icmp .ne 5, 3) := by decide +kernel
theorem dX9_below_30 : decode cX9_below 30 = .ok (.iconst 1, 1) := by decide +kernel
theorem dX9_below_31 : decode cX9_below 31 = .ok (.ireturn, 1) := by decide +kernel
theorem dX9_below_32 : decode cX9_below 32 = .ok (.aload_n 0, 1) := by decide +kernel
theorem dX9_below_33 : decode cX9_below 33 = .ok (.iload 4, 2) := by decide +kernel
theorem dX9_below_35 : decode cX9_below 35 = .ok (.iload_n 3, 1) := by decide +kernel
theorem dX9_below_36 : decode cX9_below 36 = .ok (.invokevirtual 144, 3) := by decide +kernel
theorem dX9_below_39 : decode cX9_below 39 = .ok (.istore 4, 2) := by decide +kernel
theorem dX9_below_41 : decode cX9_below 41 = .ok (.iinc 5 1, 3) := by decide +kernel
theorem dX9_below_44 : decode cX9_below 44 = .ok (.goto (-33), 3) := by decide +kernel
theorem dX9_below_47 : decode cX9_below 47 = .ok (.iconst 0, 1) := by decide +kernel
theorem dX9_below_48 : decode cX9_below 48 = .ok (.ireturn, 1) := by decide +kernel
set_option maxRecDepth 20000 in
theorem ggX9_fits_X9_below : GoodIn wsX9_fits wsX9_below := goodIn_r _ [5, 6, 7, 8, 4, 9, 10, 11, 12, 13, 14, 15, 16, 17, 18, 19, 20, 21, 22, 23, 24, 25, 26, 27, 28, 29, 30, 31, 32, 33, 34, 35, 36, 37, 38, 39, 40, 41, 42, 43, 44, 45, 46, 47, 48, 49] (by decide +kernel) (by decide +kernel)
set_option maxRecDepth 20000 in
theorem gX9_fits_X9_below : GoodIn wsX9_fits (wsV RX9 148 RX9 yX9_below wsX9_below) := goodIn_app (goodIn_of _ (by decide +kernel)) ggX9_fits_X9_below
theorem dX9_fits_0 : decode cX9_fits 0 = .ok (.iload_n 1, 1) := by decide +kernel
theorem dX9_fits_1 : decode cX9_fits 1 = .ok (.iload_n 2, 1) := by decide +kernel
theorem dX9_fits_2 : decode cX9_fits 2 = .ok (.if_icmp .eq 25, 3) := by decide +kernel
theorem dX9_fits_5 : decode cX9_fits 5 = .ok (.iload_n 1, 1) := by decide +kernel
theorem dX9_fits_6 : decode cX9_fits 6 = .ok (.bipush 8, 2) := by decide +kernel
theorem dX9_fits_8 : decode cX9_fits 8 = .ok (.if_icmp .eq 23, 3) := by decide +kernel
theorem dX9_fits_11 : decode cX9_fits 11 = .ok (.iload_n 2, 1) := by decide +kernel
theorem dX9_fits_12 : decode cX9_fits 12 = .ok (.bipush 8, 2) := by decide +kernel
theorem dX9_fits_14 : decode cX9_fits 14 = .ok (.if_icmp .eq 17, 3) := by decide +kernel
theorem dX9_fits_17 : decode cX9_fits 17 = .ok (.aload_n 0, 1) := by decide +kernel
theorem dX9_fits_18 : decode cX9_fits 18 = .ok (.iload_n 1, 1) := by decide +kernel
theorem dX9_fits_19 : decode cX9_fits 19 = .ok (.iload_n 2, 1) := by decide +kernel
theorem dX9_fits_20 : decode cX9_fits 20 = .ok (.iload_n 3, 1) := by decide +kernel
theorem dX9_fits_21 : decode cX9_fits 21 = .ok (.invokevirtual 148, 3) := by decide +kernel
theorem dX9_fits_24 : decode cX9_fits 24 = .ok (.ifCond .eq 7, 3) := by decide +kernel
theorem dX9_fits_27 : decode cX9_fits 27 = .ok (.iconst 1, 1) := by decide +kernel
theorem dX9_fits_28 : decode cX9_fits 28 = .ok (.goto 4, 3) := by decide +kernel
theorem dX9_fits_31 : decode cX9_fits 31 = .ok (.iconst 0, 1) := by decide +kernel
theorem dX9_fits_32 : decode cX9_fits 32 = .ok (.ireturn, 1) := by decide +kernel
set_option maxRecDepth 20000 in
theorem ggX9_findMember_X9_has : GoodIn wsX9_findMember wsX9_has := goodIn_r _ [8] (by decide +kernel) (by decide +kernel)
set_option maxRecDepth 20000 in
theorem gX9_findMember_X9_has : GoodIn wsX9_findMember (va_wsS RX9 97 yX9_has wsX9_has) := goodIn_app (goodIn_of _ (by decide +kernel)) ggX9_findMember_X9_has
set_option maxRecDepth 20000 in
theorem ggX9_findMember_X9_is : GoodIn wsX9_findMember wsX9_is := goodIn_r _ [12, 13, 14, 2, 15, 16, 17, 18, 19, 7, 20, 21, 22, 9, 10, 11, 27, 28, 29, 30, 31, 32, 33, 34, 35, 36, 37, 38, 39, 40, 41, 42, 43, 44, 45, 46, 47, 48, 49, 50] (by decide +kernel) (by decide +kernel)
set_option maxRecDepth 20000 in
theorem gX9_findMember_X9_is : GoodIn wsX9_findMember (wsV RX9 141 RX9 yX9_is wsX9_is) := goodIn_app (goodIn_of _ (by decide +kernel)) ggX9_findMember_X9_is
set_option maxRecDepth 20000 in
theorem ggX9_findMember_X9_parentOf : GoodIn wsX9_findMember wsX9_parentOf := goodIn_r _ [26, 1, 13, 14, 9, 10, 11, 7, 12, 2, 15, 16, 17, 18, 19, 20, 21, 22, 27, 28, 29, 30, 31, 32, 33, 34, 35, 36, 37, 38, 39, 40, 41, 42, 43, 44, 45, 46, 47, 48, 49, 50] (by decide +kernel) (by decide +kernel)
set_option maxRecDepth 20000 in
theorem gX9_findMember_X9_parentOf : GoodIn wsX9_findMember (wsV RX9 144 RX9 yX9_parentOf wsX9_parentOf) := goodIn_app (goodIn_of _ (by decide +kernel)) ggX9_findMember_X9_parentOf
theorem dX9_findMember_0 : decode cX9_findMember 0 = .ok (.iload_n 1, 1) := by decide +kernel
theorem dX9_findMember_1 : decode cX9_findMember 1 = .ok (.istore 5, 2) := by decide +kernel
theorem dX9_findMember_3 : decode cX9_findMember 3 = .ok (.iconst 0, 1) := by decide +kernel
theorem dX9_findMember_4 : decode cX9_findMember 4 = .ok (.istore 6, 2) := by decide +kernel
theorem dX9_findMember_6 : decode cX9_findMember 6 = .ok (.iload 5, 2) := by decide +kernel
theorem dX9_findMember_8 : decode cX9_findMember 8 = .ok (.iconst (-1), 1) := by decide +kernel
theorem dX9_findMember_9 : decode cX9_findMember 9 = .ok (.if_icmp .eq 104, 3) := by decide +kernel
theorem dX9_findMember_12 : decode cX9_findMember 12 = .ok (.iload 6, 2) := by decide +kernel
theorem dX9_findMember_14 : decode cX9_findMember 14 = .ok (.iload 5, 2) := by decide +kernel
theorem dX9_findMember_16 : decode cX9_findMember 16 = .ok (.invokestatic 97, 3) := by decide +kernel
theorem dX9_findMember_19 : decode cX9_findMember 19 = .ok (.ifCond .ne 94, 3) := by decide +kernel
theorem dX9_findMember_22 : decode cX9_findMember 22 = .ok (.iload 6, 2) := by decide +kernel
theorem dX9_findMember_24 : decode cX9_findMember 24 = .ok (.iconst 1, 1) := by decide +kernel
theorem dX9_findMember_25 : decode cX9_findMember 25 = .ok (.iload 5, 2) := by decide +kernel
theorem dX9_findMember_27 : decode cX9_findMember 27 = .ok (.ishl, 1) := by decide +kernel
theorem dX9_findMember_28 : decode cX9_findMember 28 = .ok (.ior, 1) := by decide +kernel
theorem dX9_findMember_29 : decode cX9_findMember 29 = .ok (.istore 6, 2) := by decide +kernel
theorem dX9_findMember_31 : decode cX9_findMember 31 = .ok (.iconst 0, 1) := by decide +kernel
theorem dX9_findMember_32 : decode cX9_findMember 32 = .ok (.istore 7, 2) := by decide +kernel
theorem dX9_findMember_34 : decode cX9_findMember 34 = .ok (.iload 7, 2) := by decide +kernel
theorem dX9_findMember_36 : decode cX9_findMember 36 = .ok (.aload_n 0, 1) := by decide +kernel
theorem dX9_findMember_37 : decode cX9_findMember 37 = .ok (.getfield 19, 3) := by decide +kernel
theorem dX9_findMember_40 : decode cX9_findMember 40 = .ok (.iconst 2, 1) := by decide +kernel
theorem dX9_findMember_41 : decode cX9_findMember 41 = .ok (.iaload, 1) := by decide +kernel
theorem dX9_findMember_42 : decode cX9_findMember 42 = .ok (.if_icmp .ge 58, 3) := by decide +kernel
theorem dX9_findMember_45 : decode cX9_findMember 45 = .ok (.aload_n 0, 1) := by decide +kernel
theorem dX9_findMember_46 : decode cX9_findMember 46 = .ok (.getfield 38, 3) := by decide +kernel
theorem dX9_findMember_49 : decode cX9_findMember 49 = .ok (.iload 7, 2) := by decide +kernel
theorem dX9_findMember_51 : decode cX9_findMember 51 = .ok (.iaload, 1) := by decide +kernel
theorem dX9_findMember_52 : decode cX9_findMember 52 = .ok (.iload 5, 2) := by decide +kernel
theorem dX9_findMember_54 : decode cX9_findMember 54 = .ok (.if_icmp .ne 40, 3) := by decide +kernel
theorem dX9_findMember_57 : decode cX9_findMember 57 = .ok (.aload_n 0, 1) := by decide +kernel
theorem dX9_findMember_58 : decode cX9_findMember 58 = .ok (.getfield 41, 3) := by decide +kernel
theorem dX9_findMember_61 : decode cX9_findMember 61 = .ok (.iload 7, 2) := by decide +kernel
theorem dX9_findMember_63 : decode cX9_findMember 63 = .ok (.iaload, 1) := by decide +kernel
theorem dX9_findMember_64 : decode cX9_findMember 64 = .ok (.iload_n 2, 1) := by decide +kernel
theorem dX9_findMember_65 : decode cX9_findMember 65 = .ok (.if_icmp .ne 29, 3) := by decide +kernel
theorem dX9_findMember_68 : decode cX9_findMember 68 = .ok (.aload_n 0, 1) := by decide +kernel
theorem dX9_findMember_69 : decode cX9_findMember 69 = .ok (.getfield 34, 3) := by decide +kernel
theorem dX9_findMember_72 : decode cX9_findMember 72 = .ok (.iload 7, 2) := by decide +kernel
theorem dX9_findMember_74 : decode cX9_findMember 74 = .ok (.baload, 1) := by decide +kernel
theorem dX9_findMember_75 : decode cX9_findMember 75 = .ok (.iload_n 3, 1) := by decide +kernel
theorem dX9_findMember_76 : decode cX9_findMember 76 = .ok (.if_icmp .ne 18, 3) := by decide +kernel
theorem dX9_findMember_79 : decode cX9_findMember 79 = .ok (.aload_n 0, 1) := by decide +kernel
theorem dX9_findMember_80 : decode cX9_findMember 80 = .ok (.iconst 2, 1) := by decide +kernel
theorem dX9_findMember_81 : decode cX9_findMember 81 = .ok (.iload 7, 2) := by decide +kernel
theorem dX9_findMember_83 : decode cX9_findMember 83 = .ok (.iload 4, 2) := by decide +kernel
theorem dX9_findMember_85 : decode cX9_findMember 85 = .ok (.invokevirtual 141, 3) := by decide +kernel
theorem dX9_findMember_88 : decode cX9_findMember 88 = .ok (.ifCond .eq 6, 3) := by decide +kernel
theorem dX9_findMember_91 : decode cX9_findMember 91 = .ok (.iload 7, 2) := by decide +kernel
theorem dX9_findMember_93 : decode cX9_findMember 93 = .ok (.ireturn, 1) := by decide +kernel
theorem dX9_findMember_94 : decode cX9_findMember 94 = .ok (.iinc 7 1, 3) := by decide +kernel
theorem dX9_findMember_97 : decode cX9_findMember 97 = .ok (.goto (-63), 3) := by decide +kernel
theorem dX9_findMember_100 : decode cX9_findMember 100 = .ok (.aload_n 0, 1) := by decide +kernel
theorem dX9_findMember_101 : decode cX9_findMember 101 = .ok (.iload 5, 2) := by decide +kernel
theorem dX9_findMember_103 : decode cX9_findMember 103 = .ok (.iload 4, 2) := by decide +kernel
theorem dX9_findMember_105 : decode cX9_findMember 105 = .ok (.invokevirtual 144, 3) := by decide +kernel
theorem dX9_findMember_108 : decode cX9_findMember 108 = .ok (.istore 5, 2) := by decide +kernel
theorem dX9_findMember_110 : decode cX9_findMember 110 = .ok (.goto (-104), 3) := by decide +kernel
theorem dX9_findMember_113 : decode cX9_findMember 113 = .ok (.iconst (-1), 1) := by decide +kernel
theorem dX9_findMember_114 : decode cX9_findMember 114 = .ok (.ireturn, 1) := by decide +kernel
theorem dX9_note_0 : decode cX9_note 0 = .ok (.aload_n 0, 1) := by decide +kernel
theorem dX9_note_1 : decode cX9_note 1 = .ok (.getfield 68, 3) := by decide +kernel
theorem dX9_note_4 : decode cX9_note 4 = .ok (.bipush 50, 2) := by decide +kernel
theorem dX9_note_6 : decode cX9_note 6 = .ok (.iload_n 1, 1) := by decide +kernel
theorem dX9_note_7 : decode cX9_note 7 = .ok (.imul, 1) := by decide +kernel
theorem dX9_note_8 : decode cX9_note 8 = .ok (.iload_n 2, 1) := by decide +kernel
theorem dX9_note_9 : decode cX9_note 9 = .ok (.iadd, 1) := by decide +kernel
theorem dX9_note_10 : decode cX9_note 10 = .ok (.dup2, 1) := by decide +kernel
theorem dX9_note_11 : decode cX9_note 11 = .ok (.iaload, 1) := by decide +kernel
theorem dX9_note_12 : decode cX9_note 12 = .ok (.iconst 1, 1) := by decide +kernel
theorem dX9_note_13 : decode cX9_note 13 = .ok (.iload_n 3, 1) := by decide +kernel
theorem dX9_note_14 : decode cX9_note 14 = .ok (.ishl, 1) := by decide +kernel
theorem dX9_note_15 : decode cX9_note 15 = .ok (.ior, 1) := by decide +kernel
theorem dX9_note_16 : decode cX9_note 16 = .ok (.iastore, 1) := by decide +kernel
theorem dX9_note_17 : decode cX9_note 17 = .ok (.return_, 1) := by decide +kernel
theorem dX9_typeIn_0 : decode cX9_typeIn 0 = .ok (.aload_n 0, 1) := by decide +kernel
theorem dX9_typeIn_1 : decode cX9_typeIn 1 = .ok (.getfield 65, 3) := by decide +kernel
theorem dX9_typeIn_4 : decode cX9_typeIn 4 = .ok (.bipush 50, 2) := by decide +kernel
theorem dX9_typeIn_6 : decode cX9_typeIn 6 = .ok (.iload_n 2, 1) := by decide +kernel
theorem dX9_typeIn_7 : decode cX9_typeIn 7 = .ok (.imul, 1) := by decide +kernel
theorem dX9_typeIn_8 : decode cX9_typeIn 8 = .ok (.iload_n 1, 1) := by decide +kernel
theorem dX9_typeIn_9 : decode cX9_typeIn 9 = .ok (.iadd, 1) := by decide +kernel
theorem dX9_typeIn_10 : decode cX9_typeIn 10 = .ok (.iaload, 1) := by decide +kernel
theorem dX9_typeIn_11 : decode cX9_typeIn 11 = .ok (.ireturn, 1) := by decide +kernel
set_option maxRecDepth 20000 in
theorem ggX9_findType_X9_is : GoodIn wsX9_findType wsX9_is := goodIn_r _ [12, 13, 14, 4, 1, 15, 16, 17, 18, 11, 19, 20, 21, 8, 9, 10, 58, 59, 60, 61, 62, 63, 64, 65, 66, 67, 68, 69, 70, 71, 72, 73, 74, 75, 76, 77, 78, 79, 80, 81] (by decide +kernel) (by decide +kernel)
set_option maxRecDepth 20000 in
theorem gX9_findType_X9_is : GoodIn wsX9_findType (wsV RX9 141 RX9 yX9_is wsX9_is) := goodIn_app (goodIn_of _ (by decide +kernel)) ggX9_findType_X9_is
set_option maxRecDepth 20000 in
theorem ggX9_findType_X9_note : GoodIn wsX9_findType wsX9_note := goodIn_r _ [25, 26, 58, 59, 60, 61, 62, 63, 64, 65, 66, 67, 68, 69, 70, 71, 72, 73, 74, 75, 76, 77, 78, 79, 80, 81] (by decide +kernel) (by decide +kernel)
set_option maxRecDepth 20000 in
theorem gX9_findType_X9_note : GoodIn wsX9_findType (wsV RX9 151 RX9 yX9_note wsX9_note) := goodIn_app (goodIn_of _ (by decide +kernel)) ggX9_findType_X9_note
set_option maxRecDepth 20000 in
theorem ggX9_findType_X9_typeIn : GoodIn wsX9_findType wsX9_typeIn := goodIn_r _ [30, 31, 58, 59, 60, 61, 62, 63, 64, 65, 66, 67, 68, 69, 70, 71, 72, 73, 74, 75, 76, 77, 78, 79, 80, 81] (by decide +kernel) (by decide +kernel)
set_option maxRecDepth 20000 in
theorem gX9_findType_X9_typeIn : GoodIn wsX9_findType (wsV RX9 155 RX9 yX9_typeIn wsX9_typeIn) := goodIn_app (goodIn_of _ (by decide +kernel)) ggX9_findType_X9_typeIn
set_option maxRecDepth 20000 in
theorem ggX9_findType_X9_findMember : GoodIn wsX9_findType wsX9_findMember := goodIn_r _ [35, 36, 4, 37, 38, 39, 40, 11, 41, 8, 9, 10, 12, 13, 14, 1, 15, 16, 17, 18, 19, 20, 21, 42, 43, 44, 45, 58, 59, 60, 61, 62, 63, 64, 65, 66, 67, 68, 69, 70, 71, 72, 73, 74, 75, 76, 77, 78, 79, 80, 81] (by decide +kernel) (by decide +kernel)
set_option maxRecDepth 20000 in
theorem gX9_findType_X9_findMember : GoodIn wsX9_findType (wsV RX9 158 RX9 yX9_findMember wsX9_findMember) := goodIn_app (goodIn_of _ (by decide +kernel)) ggX9_findType_X9_findMember
set_option maxRecDepth 20000 in
theorem ggX9_findType_X9_areAccepted : GoodIn wsX9_findType wsX9_areAccepted := goodIn_r _ [49, 6, 5, 27, 28, 29, 11, 30, 31, 50, 51, 52, 53, 54, 55, 56, 57, 42, 43, 44, 45, 36, 13, 14, 8, 9, 10, 12, 4, 1, 15, 16, 17, 18, 19, 20, 21, 58, 59, 60, 61, 62, 63, 64, 65, 66, 67, 68, 69, 70, 71, 72, 73, 74, 75, 76, 77, 78, 79, 80, 81] (by decide +kernel) (by decide +kernel)
set_option maxRecDepth 20000 in
theorem gX9_findType_X9_areAccepted : GoodIn wsX9_findType (wsV RX9 162 RX9 yX9_areAccepted wsX9_areAccepted) := goodIn_app (goodIn_of _ (by decide +kernel)) ggX9_findType_X9_areAccepted
theorem dX9_findType_0 : decode cX9_findType 0 = .ok (.aload_n 0, 1) := by decide +kernel
theorem dX9_findType_1 : decode cX9_findType 1 = .ok (.getfield 56, 3) := by decide +kernel
theorem dX9_findType_4 : decode cX9_findType 4 = .ok (.iload_n 1, 1) := by decide +kernel
theorem dX9_findType_5 : decode cX9_findType 5 = .ok (.iaload, 1) := by decide +kernel
theorem dX9_findType_6 : decode cX9_findType 6 = .ok (.istore_n 3, 1) := by decide +kernel
theorem dX9_findType_7 : decode cX9_findType 7 = .ok (.aload_n 0, 1) := by decide +kernel
theorem dX9_findType_8 : decode cX9_findType 8 = .ok (.getfield 59, 3) := by decide +kernel
theorem dX9_findType_11 : decode cX9_findType 11 = .ok (.iload_n 1, 1) := by decide +kernel
theorem dX9_findType_12 : decode cX9_findType 12 = .ok (.iaload, 1) := by decide +kernel
theorem dX9_findType_13 : decode cX9_findType 13 = .ok (.istore 4, 2) := by decide +kernel
theorem dX9_findType_15 : decode cX9_findType 15 = .ok (.aload_n 0, 1) := by decide +kernel
theorem dX9_findType_16 : decode cX9_findType 16 = .ok (.getfield 53, 3) := by decide +kernel
theorem dX9_findType_19 : decode cX9_findType 19 = .ok (.iload_n 1, 1) := by decide +kernel
theorem dX9_findType_20 : decode cX9_findType 20 = .ok (.iaload, 1) := by decide +kernel
theorem dX9_findType_21 : decode cX9_findType 21 = .ok (.iconst 1, 1) := by decide +kernel
theorem dX9_findType_22 : decode cX9_findType 22 = .ok (.if_icmp .ne 6, 3) := by decide +kernel
theorem dX9_findType_25 : decode cX9_findType 25 = .ok (.bipush 8, 2) := by decide +kernel
theorem dX9_findType_27 : decode cX9_findType 27 = .ok (.ireturn, 1) := by decide +kernel
theorem dX9_findType_28 : decode cX9_findType 28 = .ok (.aload_n 0, 1) := by decide +kernel
theorem dX9_findType_29 : decode cX9_findType 29 = .ok (.getfield 53, 3) := by decide +kernel
theorem dX9_findType_32 : decode cX9_findType 32 = .ok (.iload_n 1, 1) := by decide +kernel
theorem dX9_findType_33 : decode cX9_findType 33 = .ok (.iaload, 1) := by decide +kernel
theorem dX9_findType_34 : decode cX9_findType 34 = .ok (.iconst 2, 1) := by decide +kernel
theorem dX9_findType_35 : decode cX9_findType 35 = .ok (.if_icmp .ne 10, 3) := by decide +kernel
theorem dX9_findType_38 : decode cX9_findType 38 = .ok (.aload_n 0, 1) := by decide +kernel
theorem dX9_findType_39 : decode cX9_findType 39 = .ok (.getfield 38, 3) := by decide +kernel
theorem dX9_findType_42 : decode cX9_findType 42 = .ok (.iload_n 3, 1) := by decide +kernel
theorem dX9_findType_43 : decode cX9_findType 43 = .ok (.iaload, 1) := by decide +kernel
theorem dX9_findType_44 : decode cX9_findType 44 = .ok (.ireturn, 1) := by decide +kernel
theorem dX9_findType_45 : decode cX9_findType 45 = .ok (.aload_n 0, 1) := by decide +kernel
theorem dX9_findType_46 : decode cX9_findType 46 = .ok (.getfield 53, 3) := by decide +kernel
theorem dX9_findType_49 : decode cX9_findType 49 = .ok (.iload_n 1, 1) := by decide +kernel
theorem dX9_findType_50 : decode cX9_findType 50 = .ok (.iaload, 1) := by decide +kernel
theorem dX9_findType_51 : decode cX9_findType 51 = .ok (.iconst 3, 1) := by decide +kernel
theorem dX9_findType_52 : decode cX9_findType 52 = .ok (.if_icmp .ne 15, 3) := by decide +kernel
theorem dX9_findType_55 : decode cX9_findType 55 = .ok (.aload_n 0, 1) := by decide +kernel
theorem dX9_findType_56 : decode cX9_findType 56 = .ok (.getfield 47, 3) := by decide +kernel
theorem dX9_findType_59 : decode cX9_findType 59 = .ok (.iconst 2, 1) := by decide +kernel
theorem dX9_findType_60 : decode cX9_findType 60 = .ok (.iload_n 3, 1) := by decide +kernel
theorem dX9_findType_61 : decode cX9_findType 61 = .ok (.imul, 1) := by decide +kernel
theorem dX9_findType_62 : decode cX9_findType 62 = .ok (.iload 4, 2) := by decide +kernel
theorem dX9_findType_64 : decode cX9_findType 64 = .ok (.iadd, 1) := by decide +kernel
theorem dX9_findType_65 : decode cX9_findType 65 = .ok (.iaload, 1) := by decide +kernel
theorem dX9_findType_66 : decode cX9_findType 66 = .ok (.ireturn, 1) := by decide +kernel
theorem dX9_findType_67 : decode cX9_findType 67 = .ok (.aload_n 0, 1) := by decide +kernel
theorem dX9_findType_68 : decode cX9_findType 68 = .ok (.getfield 53, 3) := by decide +kernel
theorem dX9_findType_71 : decode cX9_findType 71 = .ok (.iload_n 1, 1) := by decide +kernel
theorem dX9_findType_72 : decode cX9_findType 72 = .ok (.iaload, 1) := by decide +kernel
theorem dX9_findType_73 : decode cX9_findType 73 = .ok (.ifCond .ne 27, 3) := by decide +kernel
theorem dX9_findType_76 : decode cX9_findType 76 = .ok (.aload_n 0, 1) := by decide +kernel
theorem dX9_findType_77 : decode cX9_findType 77 = .ok (.iconst 0, 1) := by decide +kernel
theorem dX9_findType_78 : decode cX9_findType 78 = .ok (.iload 4, 2) := by decide +kernel
theorem dX9_findType_80 : decode cX9_findType 80 = .ok (.iload_n 2, 1) := by decide +kernel
theorem dX9_findType_81 : decode cX9_findType 81 = .ok (.invokevirtual 141, 3) := by decide +kernel
theorem dX9_findType_84 : decode cX9_findType 84 = .ok (.ifCond .eq 6, 3) := by decide +kernel
theorem dX9_findType_87 : decode cX9_findType 87 = .ok (.iload 4, 2) := by decide +kernel
theorem dX9_findType_89 : decode cX9_findType 89 = .ok (.ireturn, 1) := by decide +kernel
theorem dX9_findType_90 : decode cX9_findType 90 = .ok (.aload_n 0, 1) := by decide +kernel
theorem dX9_findType_91 : decode cX9_findType 91 = .ok (.bipush 8, 2) := by decide +kernel
theorem dX9_findType_93 : decode cX9_findType 93 = .ok (.iload_n 1, 1) := by decide +kernel
theorem dX9_findType_94 : decode cX9_findType 94 = .ok (.iload_n 2, 1) := by decide +kernel
theorem dX9_findType_95 : decode cX9_findType 95 = .ok (.invokevirtual 151, 3) := by decide +kernel
theorem dX9_findType_98 : decode cX9_findType 98 = .ok (.iconst (-1), 1) := by decide +kernel
theorem dX9_findType_99 : decode cX9_findType 99 = .ok (.ireturn, 1) := by decide +kernel
theorem dX9_findType_100 : decode cX9_findType 100 = .ok (.iconst 0, 1) := by decide +kernel
theorem dX9_findType_101 : decode cX9_findType 101 = .ok (.istore 5, 2) := by decide +kernel
theorem dX9_findType_103 : decode cX9_findType 103 = .ok (.iload 5, 2) := by decide +kernel
theorem dX9_findType_105 : decode cX9_findType 105 = .ok (.iconst 3, 1) := by decide +kernel
theorem dX9_findType_106 : decode cX9_findType 106 = .ok (.if_icmp .ge 46, 3) := by decide +kernel
theorem dX9_findType_109 : decode cX9_findType 109 = .ok (.aload_n 0, 1) := by decide +kernel
theorem dX9_findType_110 : decode cX9_findType 110 = .ok (.getfield 62, 3) := by decide +kernel
theorem dX9_findType_113 : decode cX9_findType 113 = .ok (.iconst 3, 1) := by decide +kernel
theorem dX9_findType_114 : decode cX9_findType 114 = .ok (.iload_n 1, 1) := by decide +kernel
theorem dX9_findType_115 : decode cX9_findType 115 = .ok (.imul, 1) := by decide +kernel
theorem dX9_findType_116 : decode cX9_findType 116 = .ok (.iload 5, 2) := by decide +kernel
theorem dX9_findType_118 : decode cX9_findType 118 = .ok (.iadd, 1) := by decide +kernel
theorem dX9_findType_119 : decode cX9_findType 119 = .ok (.iaload, 1) := by decide +kernel
theorem dX9_findType_120 : decode cX9_findType 120 = .ok (.iconst (-1), 1) := by decide +kernel
theorem dX9_findType_121 : decode cX9_findType 121 = .ok (.if_icmp .eq 25, 3) := by decide +kernel
theorem dX9_findType_124 : decode cX9_findType 124 = .ok (.aload_n 0, 1) := by decide +kernel
theorem dX9_findType_125 : decode cX9_findType 125 = .ok (.aload_n 0, 1) := by decide +kernel
theorem dX9_findType_126 : decode cX9_findType 126 = .ok (.getfield 62, 3) := by decide +kernel
theorem dX9_findType_129 : decode cX9_findType 129 = .ok (.iconst 3, 1) := by decide +kernel
theorem dX9_findType_130 : decode cX9_findType 130 = .ok (.iload_n 1, 1) := by decide +kernel
theorem dX9_findType_131 : decode cX9_findType 131 = .ok (.imul, 1) := by decide +kernel
theorem dX9_findType_132 : decode cX9_findType 132 = .ok (.iload 5, 2) := by decide +kernel
theorem dX9_findType_134 : decode cX9_findType 134 = .ok (.iadd, 1) := by decide +kernel
theorem dX9_findType_135 : decode cX9_findType 135 = .ok (.iaload, 1) := by decide +kernel
theorem dX9_findType_136 : decode cX9_findType 136 = .ok (.iload_n 2, 1) := by decide +kernel
theorem dX9_findType_137 : decode cX9_findType 137 = .ok (.invokevirtual 155, 3) := by decide +kernel
theorem dX9_findType_140 : decode cX9_findType 140 = .ok (.iconst (-1), 1) := by decide +kernel
theorem dX9_findType_141 : decode cX9_findType 141 = .ok (.if_icmp .ne 5, 3) := by decide +kernel
theorem dX9_findType_144 : decode cX9_findType 144 = .ok (.iconst (-1), 1) := by decide +kernel
theorem dX9_findType_145 : decode cX9_findType 145 = .ok (.ireturn, 1) := by decide +kernel
theorem dX9_findType_146 : decode cX9_findType 146 = .ok (.iinc 5 1, 3) := by decide +kernel
theorem dX9_findType_149 : decode cX9_findType 149 = .ok (.goto (-46), 3) := by decide +kernel
theorem dX9_findType_152 : decode cX9_findType 152 = .ok (.aload_n 0, 1) := by decide +kernel
theorem dX9_findType_153 : decode cX9_findType 153 = .ok (.aload_n 0, 1) := by decide +kernel
theorem dX9_findType_154 : decode cX9_findType 154 = .ok (.getfield 62, 3) := by decide +kernel
theorem dX9_findType_157 : decode cX9_findType 157 = .ok (.iconst 3, 1) := by decide +kernel
theorem dX9_findType_158 : decode cX9_findType 158 = .ok (.iload_n 1, 1) := by decide +kernel
theorem dX9_findType_159 : decode cX9_findType 159 = .ok (.imul, 1) := by decide +kernel
theorem dX9_findType_160 : decode cX9_findType 160 = .ok (.iaload, 1) := by decide +kernel
theorem dX9_findType_161 : decode cX9_findType 161 = .ok (.iload_n 2, 1) := by decide +kernel
theorem dX9_findType_162 : decode cX9_findType 162 = .ok (.invokevirtual 155, 3) := by decide +kernel
theorem dX9_findType_165 : decode cX9_findType 165 = .ok (.istore 5, 2) := by decide +kernel
theorem dX9_findType_167 : decode cX9_findType 167 = .ok (.iload 5, 2) := by decide +kernel
theorem dX9_findType_169 : decode cX9_findType 169 = .ok (.bipush 8, 2) := by decide +kernel
theorem dX9_findType_171 : decode cX9_findType 171 = .ok (.if_icmp .ne 7, 3) := by decide +kernel
theorem dX9_findType_174 : decode cX9_findType 174 = .ok (.iconst (-1), 1) := by decide +kernel
theorem dX9_findType_175 : decode cX9_findType 175 = .ok (.goto 27, 3) := by decide +kernel
theorem dX9_findType_178 : decode cX9_findType 178 = .ok (.aload_n 0, 1) := by decide +kernel
theorem dX9_findType_179 : decode cX9_findType 179 = .ok (.iload 5, 2) := by decide +kernel
theorem dX9_findType_181 : decode cX9_findType 181 = .ok (.iload 4, 2) := by decide +kernel
theorem dX9_findType_183 : decode cX9_findType 183 = .ok (.aload_n 0, 1) := by decide +kernel
theorem dX9_findType_184 : decode cX9_findType 184 = .ok (.getfield 53, 3) := by decide +kernel
theorem dX9_findType_187 : decode cX9_findType 187 = .ok (.iload_n 1, 1) := by decide +kernel
theorem dX9_findType_188 : decode cX9_findType 188 = .ok (.iaload, 1) := by decide +kernel
theorem dX9_findType_189 : decode cX9_findType 189 = .ok (.iconst 5, 1) := by decide +kernel
theorem dX9_findType_190 : decode cX9_findType 190 = .ok (.if_icmp .ne 7, 3) := by decide +kernel
theorem dX9_findType_193 : decode cX9_findType 193 = .ok (.iconst 1, 1) := by decide +kernel
theorem dX9_findType_194 : decode cX9_findType 194 = .ok (.goto 4, 3) := by decide +kernel
theorem dX9_findType_197 : decode cX9_findType 197 = .ok (.iconst 0, 1) := by decide +kernel
theorem dX9_findType_198 : decode cX9_findType 198 = .ok (.iload_n 2, 1) := by decide +kernel
theorem dX9_findType_199 : decode cX9_findType 199 = .ok (.invokevirtual 158, 3) := by decide +kernel
theorem dX9_findType_202 : decode cX9_findType 202 = .ok (.istore 6, 2) := by decide +kernel
theorem dX9_findType_204 : decode cX9_findType 204 = .ok (.iload 6, 2) := by decide +kernel
theorem dX9_findType_206 : decode cX9_findType 206 = .ok (.iconst (-1), 1) := by decide +kernel
theorem dX9_findType_207 : decode cX9_findType 207 = .ok (.if_icmp .eq 32, 3) := by decide +kernel
theorem dX9_findType_210 : decode cX9_findType 210 = .ok (.aload_n 0, 1) := by decide +kernel
theorem dX9_findType_211 : decode cX9_findType 211 = .ok (.getfield 53, 3) := by decide +kernel
theorem dX9_findType_214 : decode cX9_findType 214 = .ok (.iload_n 1, 1) := by decide +kernel
theorem dX9_findType_215 : decode cX9_findType 215 = .ok (.iaload, 1) := by decide +kernel
theorem dX9_findType_216 : decode cX9_findType 216 = .ok (.iconst 4, 1) := by decide +kernel
theorem dX9_findType_217 : decode cX9_findType 217 = .ok (.if_icmp .eq 14, 3) := by decide +kernel
theorem dX9_findType_220 : decode cX9_findType 220 = .ok (.aload_n 0, 1) := by decide +kernel
theorem dX9_findType_221 : decode cX9_findType 221 = .ok (.iload_n 1, 1) := by decide +kernel
theorem dX9_findType_222 : decode cX9_findType 222 = .ok (.iload 6, 2) := by decide +kernel
theorem dX9_findType_224 : decode cX9_findType 224 = .ok (.iload_n 2, 1) := by decide +kernel
theorem dX9_findType_225 : decode cX9_findType 225 = .ok (.invokevirtual 162, 3) := by decide +kernel
theorem dX9_findType_228 : decode cX9_findType 228 = .ok (.ifCond .eq 11, 3) := by decide +kernel
theorem dX9_findType_231 : decode cX9_findType 231 = .ok (.aload_n 0, 1) := by decide +kernel
theorem dX9_findType_232 : decode cX9_findType 232 = .ok (.getfield 44, 3) := by decide +kernel
theorem dX9_findType_235 : decode cX9_findType 235 = .ok (.iload 6, 2) := by decide +kernel
theorem dX9_findType_237 : decode cX9_findType 237 = .ok (.iaload, 1) := by decide +kernel
theorem dX9_findType_238 : decode cX9_findType 238 = .ok (.ireturn, 1) := by decide +kernel
theorem dX9_findType_239 : decode cX9_findType 239 = .ok (.aload_n 0, 1) := by decide +kernel
theorem dX9_findType_240 : decode cX9_findType 240 = .ok (.iload 5, 2) := by decide +kernel
theorem dX9_findType_242 : decode cX9_findType 242 = .ok (.bipush 8, 2) := by decide +kernel
theorem dX9_findType_244 : decode cX9_findType 244 = .ok (.if_icmp .ne 8, 3) := by decide +kernel
theorem dX9_findType_247 : decode cX9_findType 247 = .ok (.bipush 9, 2) := by decide +kernel
theorem dX9_findType_249 : decode cX9_findType 249 = .ok (.goto 16, 3) := by decide +kernel
theorem dX9_findType_252 : decode cX9_findType 252 = .ok (.iload 6, 2) := by decide +kernel
theorem dX9_findType_254 : decode cX9_findType 254 = .ok (.iconst (-1), 1) := by decide +kernel
theorem dX9_findType_255 : decode cX9_findType 255 = .ok (.if_icmp .ne 8, 3) := by decide +kernel
theorem dX9_findType_258 : decode cX9_findType 258 = .ok (.bipush 10, 2) := by decide +kernel
theorem dX9_findType_260 : decode cX9_findType 260 = .ok (.goto 5, 3) := by decide +kernel
theorem dX9_findType_263 : decode cX9_findType 263 = .ok (.bipush 11, 2) := by decide +kernel
theorem dX9_findType_265 : decode cX9_findType 265 = .ok (.iload_n 1, 1) := by decide +kernel
theorem dX9_findType_266 : decode cX9_findType 266 = .ok (.iload_n 2, 1) := by decide +kernel
theorem dX9_findType_267 : decode cX9_findType 267 = .ok (.invokevirtual 151, 3) := by decide +kernel
theorem dX9_findType_270 : decode cX9_findType 270 = .ok (.iconst (-1), 1) := by decide +kernel
theorem dX9_findType_271 : decode cX9_findType 271 = .ok (.ireturn, 1) := by decide +kernel
set_option maxRecDepth 20000 in
theorem ggX9_areAccepted_X9_typeIn : GoodIn wsX9_areAccepted wsX9_typeIn := goodIn_r _ [7, 8, 37, 38, 39, 40, 41, 42, 43, 44, 45, 46, 47, 48, 49, 50, 51, 52, 53, 54, 55, 56, 57, 58, 59, 60] (by decide +kernel) (by decide +kernel)
set_option maxRecDepth 20000 in
theorem gX9_areAccepted_X9_typeIn : GoodIn wsX9_areAccepted (wsV RX9 155 RX9 yX9_typeIn wsX9_typeIn) := goodIn_app (goodIn_of _ (by decide +kernel)) ggX9_areAccepted_X9_typeIn
set_option maxRecDepth 20000 in
theorem ggX9_areAccepted_X9_fits : GoodIn wsX9_areAccepted wsX9_fits := goodIn_r _ [12, 13, 14, 15, 6, 16, 17, 18, 19, 20, 21, 22, 23, 24, 25, 26, 27, 28, 29, 30, 31, 32, 33, 34, 35, 36, 37, 38, 39, 40, 41, 42, 43, 44, 45, 46, 47, 48, 49, 50, 51, 52, 53, 54, 55, 56, 57, 58, 59, 60] (by decide +kernel) (by decide +kernel)
set_option maxRecDepth 20000 in
theorem gX9_areAccepted_X9_fits : GoodIn wsX9_areAccepted (wsV RX9 165 RX9 yX9_fits wsX9_fits) := goodIn_app (goodIn_of _ (by decide +kernel)) ggX9_areAccepted_X9_fits
theorem dX9_areAccepted_0 : decode cX9_areAccepted 0 = .ok (.iconst 1, 1) := by decide +kernel
theorem dX9_areAccepted_1 : decode cX9_areAccepted 1 = .ok (.istore 4, 2) := by decide +kernel
theorem dX9_areAccepted_3 : decode cX9_areAccepted 3 = .ok (.iconst 0, 1) := by decide +kernel
theorem dX9_areAccepted_4 : decode cX9_areAccepted 4 = .ok (.istore 5, 2) := by decide +kernel
theorem dX9_areAccepted_6 : decode cX9_areAccepted 6 = .ok (.iload 5, 2) := by decide +kernel
theorem dX9_areAccepted_8 : decode cX9_areAccepted 8 = .ok (.iconst 2, 1) := by decide +kernel
theorem dX9_areAccepted_9 : decode cX9_areAccepted 9 = .ok (.if_icmp .ge 97, 3) := by decide +kernel
theorem dX9_areAccepted_12 : decode cX9_areAccepted 12 = .ok (.aload_n 0, 1) := by decide +kernel
theorem dX9_areAccepted_13 : decode cX9_areAccepted 13 = .ok (.getfield 62, 3) := by decide +kernel
theorem dX9_areAccepted_16 : decode cX9_areAccepted 16 = .ok (.iconst 3, 1) := by decide +kernel
theorem dX9_areAccepted_17 : decode cX9_areAccepted 17 = .ok (.iload_n 1, 1) := by decide +kernel
theorem dX9_areAccepted_18 : decode cX9_areAccepted 18 = .ok (.imul, 1) := by decide +kernel
theorem dX9_areAccepted_19 : decode cX9_areAccepted 19 = .ok (.iconst 1, 1) := by decide +kernel
theorem dX9_areAccepted_20 : decode cX9_areAccepted 20 = .ok (.iadd, 1) := by decide +kernel
theorem dX9_areAccepted_21 : decode cX9_areAccepted 21 = .ok (.iload 5, 2) := by decide +kernel
theorem dX9_areAccepted_23 : decode cX9_areAccepted 23 = .ok (.iadd, 1) := by decide +kernel
theorem dX9_areAccepted_24 : decode cX9_areAccepted 24 = .ok (.iaload, 1) := by decide +kernel
theorem dX9_areAccepted_25 : decode cX9_areAccepted 25 = .ok (.istore 6, 2) := by decide +kernel
theorem dX9_areAccepted_27 : decode cX9_areAccepted 27 = .ok (.aload_n 0, 1) := by decide +kernel
theorem dX9_areAccepted_28 : decode cX9_areAccepted 28 = .ok (.getfield 47, 3) := by decide +kernel
theorem dX9_areAccepted_31 : decode cX9_areAccepted 31 = .ok (.iconst 2, 1) := by decide +kernel
theorem dX9_areAccepted_32 : decode cX9_areAccepted 32 = .ok (.iload_n 2, 1) := by decide +kernel
theorem dX9_areAccepted_33 : decode cX9_areAccepted 33 = .ok (.imul, 1) := by decide +kernel
theorem dX9_areAccepted_34 : decode cX9_areAccepted 34 = .ok (.iload 5, 2) := by decide +kernel
theorem dX9_areAccepted_36 : decode cX9_areAccepted 36 = .ok (.iadd, 1) := by decide +kernel
theorem dX9_areAccepted_37 : decode cX9_areAccepted 37 = .ok (.iaload, 1) := by decide +kernel
theorem dX9_areAccepted_38 : decode cX9_areAccepted 38 = .ok (.istore 7, 2) := by decide +kernel
theorem dX9_areAccepted_40 : decode cX9_areAccepted 40 = .ok (.iload 4, 2) := by decide +kernel
theorem dX9_areAccepted_42 : decode cX9_areAccepted 42 = .ok (.ifCond .eq 55, 3) := by decide +kernel
theorem dX9_areAccepted_45 : decode cX9_areAccepted 45 = .ok (.iload 6, 2) := by decide +kernel
theorem dX9_areAccepted_47 : decode cX9_areAccepted 47 = .ok (.iconst (-1), 1) := by decide +kernel
theorem dX9_areAccepted_48 : decode cX9_areAccepted 48 = .ok (.if_icmp .ne 7, 3) := by decide +kernel
theorem dX9_areAccepted_51 : decode cX9_areAccepted 51 = .ok (.iconst 1, 1) := by decide +kernel
theorem dX9_areAccepted_52 : decode cX9_areAccepted 52 = .ok (.goto 4, 3) := by decide +kernel
theorem dX9_areAccepted_55 : decode cX9_areAccepted 55 = .ok (.iconst 0, 1) := by decide +kernel
theorem dX9_areAccepted_56 : decode cX9_areAccepted 56 = .ok (.iload 7, 2) := by decide +kernel
theorem dX9_areAccepted_58 : decode cX9_areAccepted 58 = .ok (.iconst (-1), 1) := by decide +kernel
theorem dX9_areAccepted_59 : decode cX9_areAccepted 59 = .ok (.if_icmp .ne 7, 3) := by decide +kernel
theorem dX9_areAccepted_62 : decode cX9_areAccepted 62 = .ok (.iconst 1, 1) := by decide +kernel
theorem dX9_areAccepted_63 : decode cX9_areAccepted 63 = .ok (.goto 4, 3) := by decide +kernel
theorem dX9_areAccepted_66 : decode cX9_areAccepted 66 = .ok (.iconst 0, 1) := by decide +kernel
theorem dX9_areAccepted_67 : decode cX9_areAccepted 67 = .ok (.if_icmp .ne 30, 3) := by decide +kernel
theorem dX9_areAccepted_70 : decode cX9_areAccepted 70 = .ok (.iload 6, 2) := by decide +kernel
theorem dX9_areAccepted_72 : decode cX9_areAccepted 72 = .ok (.iconst (-1), 1) := by decide +kernel
theorem dX9_areAccepted_73 : decode cX9_areAccepted 73 = .ok (.if_icmp .eq 20, 3) := by decide +kernel
theorem dX9_areAccepted_76 : decode cX9_areAccepted 76 = .ok (.aload_n 0, 1) := by decide +kernel
theorem dX9_areAccepted_77 : decode cX9_areAccepted 77 = .ok (.aload_n 0, 1) := by decide +kernel
theorem dX9_areAccepted_78 : decode cX9_areAccepted 78 = .ok (.iload 6, 2) := by decide +kernel
theorem dX9_areAccepted_80 : decode cX9_areAccepted 80 = .ok (.iload_n 3, 1) := by decide +kernel
theorem dX9_areAccepted_81 : decode cX9_areAccepted 81 = .ok (.invokevirtual 155, 3) := by decide +kernel
theorem dX9_areAccepted_84 : decode cX9_areAccepted 84 = .ok (.iload 7, 2) := by decide +kernel
theorem dX9_areAccepted_86 : decode cX9_areAccepted 86 = .ok (.iload_n 3, 1) := by decide +kernel
theorem dX9_areAccepted_87 : decode cX9_areAccepted 87 = .ok (.invokevirtual 165, 3) := by decide +kernel
theorem dX9_areAccepted_90 : decode cX9_areAccepted 90 = .ok (.ifCond .eq 7, 3) := by decide +kernel
theorem dX9_areAccepted_93 : decode cX9_areAccepted 93 = .ok (.iconst 1, 1) := by decide +kernel
theorem dX9_areAccepted_94 : decode cX9_areAccepted 94 = .ok (.goto 4, 3) := by decide +kernel
theorem dX9_areAccepted_97 : decode cX9_areAccepted 97 = .ok (.iconst 0, 1) := by decide +kernel
theorem dX9_areAccepted_98 : decode cX9_areAccepted 98 = .ok (.istore 4, 2) := by decide +kernel
theorem dX9_areAccepted_100 : decode cX9_areAccepted 100 = .ok (.iinc 5 1, 3) := by decide +kernel
theorem dX9_areAccepted_103 : decode cX9_areAccepted 103 = .ok (.goto (-97), 3) := by decide +kernel
theorem dX9_areAccepted_106 : decode cX9_areAccepted 106 = .ok (.iload 4, 2) := by decide +kernel
theorem dX9_areAccepted_108 : decode cX9_areAccepted 108 = .ok (.ireturn, 1) := by decide +kernel
set_option maxRecDepth 20000 in
theorem ggX9_checkProgram_X9_isMeant : GoodIn wsX9_checkProgram wsX9_isMeant := goodIn_r _ [9, 10, 11, 54, 55, 56, 57, 58, 59, 60, 61, 62, 63, 64, 65, 66, 67, 68, 69, 70, 71, 72, 73, 74, 75, 76, 77] (by decide +kernel) (by decide +kernel)
set_option maxRecDepth 20000 in
theorem gX9_checkProgram_X9_isMeant : GoodIn wsX9_checkProgram (wsV RX9 138 RX9 yX9_isMeant wsX9_isMeant) := goodIn_app (goodIn_of _ (by decide +kernel)) ggX9_checkProgram_X9_isMeant
set_option maxRecDepth 20000 in
theorem ggX9_checkProgram_X9_is : GoodIn wsX9_checkProgram wsX9_is := goodIn_r _ [15, 2, 3, 4, 16, 17, 5, 6, 7, 8, 9, 10, 11, 12, 13, 14, 54, 55, 56, 57, 58, 59, 60, 61, 62, 63, 64, 65, 66, 67, 68, 69, 70, 71, 72, 73, 74, 75, 76, 77] (by decide +kernel) (by decide +kernel)
set_option maxRecDepth 20000 in
theorem gX9_checkProgram_X9_is : GoodIn wsX9_checkProgram (wsV RX9 141 RX9 yX9_is wsX9_is) := goodIn_app (goodIn_of _ (by decide +kernel)) ggX9_checkProgram_X9_is
set_option maxRecDepth 20000 in
theorem ggX9_checkProgram_X9_note : GoodIn wsX9_checkProgram wsX9_note := goodIn_r _ [21, 22, 54, 55, 56, 57, 58, 59, 60, 61, 62, 63, 64, 65, 66, 67, 68, 69, 70, 71, 72, 73, 74, 75, 76, 77] (by decide +kernel) (by decide +kernel)
set_option maxRecDepth 20000 in
theorem gX9_checkProgram_X9_note : GoodIn wsX9_checkProgram (wsV RX9 151 RX9 yX9_note wsX9_note) := goodIn_app (goodIn_of _ (by decide +kernel)) ggX9_checkProgram_X9_note
set_option maxRecDepth 20000 in
theorem ggX9_checkProgram_X9_below : GoodIn wsX9_checkProgram wsX9_below := goodIn_r _ [26, 27, 28, 29, 8, 30, 1, 2, 3, 12, 13, 14, 15, 4, 16, 17, 5, 6, 7, 9, 10, 11, 54, 55, 56, 57, 58, 59, 60, 61, 62, 63, 64, 65, 66, 67, 68, 69, 70, 71, 72, 73, 74, 75, 76, 77] (by decide +kernel) (by decide +kernel)
set_option maxRecDepth 20000 in
theorem gX9_checkProgram_X9_below : GoodIn wsX9_checkProgram (wsV RX9 148 RX9 yX9_below wsX9_below) := goodIn_app (goodIn_of _ (by decide +kernel)) ggX9_checkProgram_X9_below
set_option maxRecDepth 20000 in
theorem ggX9_checkProgram_X9_checkMember : GoodIn wsX9_checkProgram wsX9_checkMember := goodIn_r _ [34, 35, 36, 37, 4, 38, 39, 40, 41, 8, 42, 12, 13, 14, 15, 2, 3, 16, 17, 5, 6, 7, 9, 10, 11, 18, 19, 20, 21, 22, 27, 28, 29, 30, 1, 43, 44, 45, 46, 47, 48, 49, 50, 51, 52, 53, 23, 24, 25, 26, 54, 55, 56, 57, 58, 59, 60, 61, 62, 63, 64, 65, 66, 67, 68, 69, 70, 71, 72, 73, 74, 75, 76, 77] (by decide +kernel) (by decide +kernel)
set_option maxRecDepth 20000 in
theorem gX9_checkProgram_X9_checkMember : GoodIn wsX9_checkProgram (wsV RX9 168 RX9 yX9_checkMember wsX9_checkMember) := goodIn_app (goodIn_of _ (by decide +kernel)) ggX9_checkProgram_X9_checkMember
theorem dX9_checkProgram_0 : decode cX9_checkProgram 0 = .ok (.iconst 0, 1) := by decide +kernel
