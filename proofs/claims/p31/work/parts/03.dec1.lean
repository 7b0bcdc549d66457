set_option maxRecDepth 20000 in
theorem ggX0_init_X5_init : GoodIn wsX0_init wsX5_init := goodIn_r _ [13, 14, 2, 3, 15, 16, 21] (by decide +kernel) (by decide +kernel)
set_option maxRecDepth 20000 in
theorem gX0_init_X5_init : GoodIn wsX0_init (wsX5_init) := ggX0_init_X5_init
theorem dX0_init_0 : decode cX0_init 0 = .ok (.aload_n 0, 1) := by decide +kernel
theorem dX0_init_1 : decode cX0_init 1 = .ok (.invokespecial 1, 3) := by decide +kernel
theorem dX0_init_4 : decode cX0_init 4 = .ok (.aload_n 0, 1) := by decide +kernel
theorem dX0_init_5 : decode cX0_init 5 = .ok (.iconst 0, 1) := by decide +kernel
theorem dX0_init_6 : decode cX0_init 6 = .ok (.putfield 7, 3) := by decide +kernel
theorem dX0_init_9 : decode cX0_init 9 = .ok (.aload_n 0, 1) := by decide +kernel
theorem dX0_init_10 : decode cX0_init 10 = .ok (.new 13, 3) := by decide +kernel
theorem dX0_init_13 : decode cX0_init 13 = .ok (.dup, 1) := by decide +kernel
theorem dX0_init_14 : decode cX0_init 14 = .ok (.iload_n 1, 1) := by decide +kernel
theorem dX0_init_15 : decode cX0_init 15 = .ok (.invokespecial 15, 3) := by decide +kernel
theorem dX0_init_18 : decode cX0_init 18 = .ok (.putfield 18, 3) := by decide +kernel
theorem dX0_init_21 : decode cX0_init 21 = .ok (.aload_n 0, 1) := by decide +kernel
theorem dX0_init_22 : decode cX0_init 22 = .ok (.new 13, 3) := by decide +kernel
theorem dX0_init_25 : decode cX0_init 25 = .ok (.dup, 1) := by decide +kernel
theorem dX0_init_26 : decode cX0_init 26 = .ok (.iload_n 1, 1) := by decide +kernel
theorem dX0_init_27 : decode cX0_init 27 = .ok (.invokespecial 15, 3) := by decide +kernel
theorem dX0_init_30 : decode cX0_init 30 = .ok (.putfield 22, 3) := by decide +kernel
theorem dX0_init_33 : decode cX0_init 33 = .ok (.aload_n 0, 1) := by decide +kernel
theorem dX0_init_34 : decode cX0_init 34 = .ok (.new 13, 3) := by decide +kernel
theorem dX0_init_37 : decode cX0_init 37 = .ok (.dup, 1) := by decide +kernel
theorem dX0_init_38 : decode cX0_init 38 = .ok (.iload_n 1, 1) := by decide +kernel
theorem dX0_init_39 : decode cX0_init 39 = .ok (.invokespecial 15, 3) := by decide +kernel
theorem dX0_init_42 : decode cX0_init 42 = .ok (.putfield 25, 3) := by decide +kernel
theorem dX0_init_45 : decode cX0_init 45 = .ok (.return_, 1) := by decide +kernel
theorem dX0_size_0 : decode cX0_size 0 = .ok (.aload_n 0, 1) := by decide +kernel
theorem dX0_size_1 : decode cX0_size 1 = .ok (.getfield 7, 3) := by decide +kernel
theorem dX0_size_4 : decode cX0_size 4 = .ok (.ireturn, 1) := by decide +kernel
theorem dX0_has_0 : decode cX0_has 0 = .ok (.iload_n 1, 1) := by decide +kernel
theorem dX0_has_1 : decode cX0_has 1 = .ok (.ifCond .lt 15, 3) := by decide +kernel
theorem dX0_has_4 : decode cX0_has 4 = .ok (.iload_n 1, 1) := by decide +kernel
theorem dX0_has_5 : decode cX0_has 5 = .ok (.aload_n 0, 1) := by decide +kernel
theorem dX0_has_6 : decode cX0_has 6 = .ok (.getfield 7, 3) := by decide +kernel
theorem dX0_has_9 : decode cX0_has 9 = .ok (.if_icmp .ge 7, 3) := by decide +kernel
theorem dX0_has_12 : decode cX0_has 12 = .ok (.iconst 1, 1) := by decide +kernel
theorem dX0_has_13 : decode cX0_has 13 = .ok (.goto 4, 3) := by decide +kernel
theorem dX0_has_16 : decode cX0_has 16 = .ok (.iconst 0, 1) := by decide +kernel
theorem dX0_has_17 : decode cX0_has 17 = .ok (.ireturn, 1) := by decide +kernel
set_option maxRecDepth 20000 in
theorem ggX0_append_X0_put : GoodIn wsX0_append wsX0_put := goodIn_r _ [6, 7, 8, 9, 10, 11, 12, 13, 14, 15, 16, 17, 18, 19, 20, 21, 22, 23] (by decide +kernel) (by decide +kernel)
set_option maxRecDepth 20000 in
theorem gX0_append_X0_put : GoodIn wsX0_append (wsV RX0 28 RX0 yX0_put wsX0_put) := goodIn_app (goodIn_of _ (by decide +kernel)) ggX0_append_X0_put
theorem dX0_append_0 : decode cX0_append 0 = .ok (.aload_n 0, 1) := by decide +kernel
theorem dX0_append_1 : decode cX0_append 1 = .ok (.getfield 7, 3) := by decide +kernel
theorem dX0_append_4 : decode cX0_append 4 = .ok (.istore_n 3, 1) := by decide +kernel
theorem dX0_append_5 : decode cX0_append 5 = .ok (.aload_n 0, 1) := by decide +kernel
theorem dX0_append_6 : decode cX0_append 6 = .ok (.dup, 1) := by decide +kernel
theorem dX0_append_7 : decode cX0_append 7 = .ok (.getfield 7, 3) := by decide +kernel
theorem dX0_append_10 : decode cX0_append 10 = .ok (.iconst 1, 1) := by decide +kernel
theorem dX0_append_11 : decode cX0_append 11 = .ok (.iadd, 1) := by decide +kernel
theorem dX0_append_12 : decode cX0_append 12 = .ok (.putfield 7, 3) := by decide +kernel
theorem dX0_append_15 : decode cX0_append 15 = .ok (.aload_n 0, 1) := by decide +kernel
theorem dX0_append_16 : decode cX0_append 16 = .ok (.iload_n 3, 1) := by decide +kernel
theorem dX0_append_17 : decode cX0_append 17 = .ok (.iload_n 1, 1) := by decide +kernel
theorem dX0_append_18 : decode cX0_append 18 = .ok (.iload_n 2, 1) := by decide +kernel
theorem dX0_append_19 : decode cX0_append 19 = .ok (.invokevirtual 28, 3) := by decide +kernel
theorem dX0_append_22 : decode cX0_append 22 = .ok (.iload_n 3, 1) := by decide +kernel
theorem dX0_append_23 : decode cX0_append 23 = .ok (.ireturn, 1) := by decide +kernel
set_option maxRecDepth 20000 in
theorem ggX0_whereTrue_X5_at : GoodIn wsX0_whereTrue wsX5_at := goodIn_r _ [6, 7, 12] (by decide +kernel) (by decide +kernel)
set_option maxRecDepth 20000 in
theorem gX0_whereTrue_X5_at : GoodIn wsX0_whereTrue (wsV RX0 32 RX5 yX5_at wsX5_at) := goodIn_app (goodIn_of _ (by decide +kernel)) ggX0_whereTrue_X5_at
theorem dX0_whereTrue_0 : decode cX0_whereTrue 0 = .ok (.aload_n 0, 1) := by decide +kernel
theorem dX0_whereTrue_1 : decode cX0_whereTrue 1 = .ok (.getfield 25, 3) := by decide +kernel
theorem dX0_whereTrue_4 : decode cX0_whereTrue 4 = .ok (.iload_n 1, 1) := by decide +kernel
theorem dX0_whereTrue_5 : decode cX0_whereTrue 5 = .ok (.invokevirtual 32, 3) := by decide +kernel
theorem dX0_whereTrue_8 : decode cX0_whereTrue 8 = .ok (.ireturn, 1) := by decide +kernel
set_option maxRecDepth 20000 in
theorem ggX0_put_X5_put : GoodIn wsX0_put wsX5_put := goodIn_r _ [8, 9, 17] (by decide +kernel) (by decide +kernel)
set_option maxRecDepth 20000 in
theorem gX0_put_X5_put : GoodIn wsX0_put (wsV RX0 36 RX5 yX5_put wsX5_put) := goodIn_app (goodIn_of _ (by decide +kernel)) ggX0_put_X5_put
set_option maxRecDepth 20000 in
theorem ggX0_put_X8_configurationsWith : GoodIn wsX0_put wsX8_configurationsWith := goodIn_r _ [12] (by decide +kernel) (by decide +kernel)
set_option maxRecDepth 20000 in
theorem gX0_put_X8_configurationsWith_n39 : GoodIn wsX0_put (wsX8_configurationsWith) := ggX0_put_X8_configurationsWith
theorem dX0_put_0 : decode cX0_put 0 = .ok (.aload_n 0, 1) := by decide +kernel
theorem dX0_put_1 : decode cX0_put 1 = .ok (.getfield 18, 3) := by decide +kernel
theorem dX0_put_4 : decode cX0_put 4 = .ok (.iload_n 1, 1) := by decide +kernel
theorem dX0_put_5 : decode cX0_put 5 = .ok (.iload_n 2, 1) := by decide +kernel
theorem dX0_put_6 : decode cX0_put 6 = .ok (.invokevirtual 36, 3) := by decide +kernel
theorem dX0_put_9 : decode cX0_put 9 = .ok (.aload_n 0, 1) := by decide +kernel
theorem dX0_put_10 : decode cX0_put 10 = .ok (.getfield 22, 3) := by decide +kernel
theorem dX0_put_13 : decode cX0_put 13 = .ok (.iload_n 1, 1) := by decide +kernel
theorem dX0_put_14 : decode cX0_put 14 = .ok (.iload_n 3, 1) := by decide +kernel
theorem dX0_put_15 : decode cX0_put 15 = .ok (.invokevirtual 36, 3) := by decide +kernel
theorem dX0_put_18 : decode cX0_put 18 = .ok (.aload_n 0, 1) := by decide +kernel
theorem dX0_put_19 : decode cX0_put 19 = .ok (.getfield 25, 3) := by decide +kernel
theorem dX0_put_22 : decode cX0_put 22 = .ok (.iload_n 1, 1) := by decide +kernel
theorem dX0_put_23 : decode cX0_put 23 = .ok (.iload_n 2, 1) := by decide +kernel
theorem dX0_put_24 : decode cX0_put 24 = .ok (.iload_n 3, 1) := by decide +kernel
theorem dX0_put_25 : decode cX0_put 25 = .ok (.invokestatic 39, 3) := by decide +kernel
theorem dX0_put_28 : decode cX0_put 28 = .ok (.invokevirtual 36, 3) := by decide +kernel
theorem dX0_put_31 : decode cX0_put 31 = .ok (.return_, 1) := by decide +kernel
set_option maxRecDepth 20000 in
theorem ggX1_init_X5_init : GoodIn wsX1_init wsX5_init := goodIn_r _ [16, 17, 2, 3, 18, 19, 20] (by decide +kernel) (by decide +kernel)
set_option maxRecDepth 20000 in
theorem gX1_init_X5_init : GoodIn wsX1_init (wsX5_init) := ggX1_init_X5_init
theorem dX1_init_0 : decode cX1_init 0 = .ok (.aload_n 0, 1) := by decide +kernel
theorem dX1_init_1 : decode cX1_init 1 = .ok (.invokespecial 3, 3) := by decide +kernel
theorem dX1_init_4 : decode cX1_init 4 = .ok (.aload_n 0, 1) := by decide +kernel
theorem dX1_init_5 : decode cX1_init 5 = .ok (.new 9, 3) := by decide +kernel
theorem dX1_init_8 : decode cX1_init 8 = .ok (.dup, 1) := by decide +kernel
theorem dX1_init_9 : decode cX1_init 9 = .ok (.bipush 50, 2) := by decide +kernel
theorem dX1_init_11 : decode cX1_init 11 = .ok (.invokespecial 11, 3) := by decide +kernel
theorem dX1_init_14 : decode cX1_init 14 = .ok (.putfield 14, 3) := by decide +kernel
theorem dX1_init_17 : decode cX1_init 17 = .ok (.aload_n 0, 1) := by decide +kernel
theorem dX1_init_18 : decode cX1_init 18 = .ok (.new 9, 3) := by decide +kernel
theorem dX1_init_21 : decode cX1_init 21 = .ok (.dup, 1) := by decide +kernel
theorem dX1_init_22 : decode cX1_init 22 = .ok (.bipush 50, 2) := by decide +kernel
theorem dX1_init_24 : decode cX1_init 24 = .ok (.invokespecial 11, 3) := by decide +kernel
theorem dX1_init_27 : decode cX1_init 27 = .ok (.putfield 20, 3) := by decide +kernel
theorem dX1_init_30 : decode cX1_init 30 = .ok (.aload_n 0, 1) := by decide +kernel
theorem dX1_init_31 : decode cX1_init 31 = .ok (.new 9, 3) := by decide +kernel
theorem dX1_init_34 : decode cX1_init 34 = .ok (.dup, 1) := by decide +kernel
theorem dX1_init_35 : decode cX1_init 35 = .ok (.bipush 50, 2) := by decide +kernel
theorem dX1_init_37 : decode cX1_init 37 = .ok (.invokespecial 11, 3) := by decide +kernel
theorem dX1_init_40 : decode cX1_init 40 = .ok (.putfield 23, 3) := by decide +kernel
theorem dX1_init_43 : decode cX1_init 43 = .ok (.aload_n 0, 1) := by decide +kernel
theorem dX1_init_44 : decode cX1_init 44 = .ok (.new 9, 3) := by decide +kernel
theorem dX1_init_47 : decode cX1_init 47 = .ok (.dup, 1) := by decide +kernel
theorem dX1_init_48 : decode cX1_init 48 = .ok (.bipush 50, 2) := by decide +kernel
theorem dX1_init_50 : decode cX1_init 50 = .ok (.invokespecial 11, 3) := by decide +kernel
theorem dX1_init_53 : decode cX1_init 53 = .ok (.putfield 26, 3) := by decide +kernel
theorem dX1_init_56 : decode cX1_init 56 = .ok (.aload_n 0, 1) := by decide +kernel
theorem dX1_init_57 : decode cX1_init 57 = .ok (.new 9, 3) := by decide +kernel
theorem dX1_init_60 : decode cX1_init 60 = .ok (.dup, 1) := by decide +kernel
theorem dX1_init_61 : decode cX1_init 61 = .ok (.bipush 50, 2) := by decide +kernel
theorem dX1_init_63 : decode cX1_init 63 = .ok (.invokespecial 11, 3) := by decide +kernel
theorem dX1_init_66 : decode cX1_init 66 = .ok (.putfield 29, 3) := by decide +kernel
theorem dX1_init_69 : decode cX1_init 69 = .ok (.aload_n 0, 1) := by decide +kernel
theorem dX1_init_70 : decode cX1_init 70 = .ok (.new 9, 3) := by decide +kernel
theorem dX1_init_73 : decode cX1_init 73 = .ok (.dup, 1) := by decide +kernel
theorem dX1_init_74 : decode cX1_init 74 = .ok (.bipush 50, 2) := by decide +kernel
theorem dX1_init_76 : decode cX1_init 76 = .ok (.invokespecial 11, 3) := by decide +kernel
theorem dX1_init_79 : decode cX1_init 79 = .ok (.putfield 32, 3) := by decide +kernel
theorem dX1_init_82 : decode cX1_init 82 = .ok (.aload_n 0, 1) := by decide +kernel
theorem dX1_init_83 : decode cX1_init 83 = .ok (.iconst 0, 1) := by decide +kernel
theorem dX1_init_84 : decode cX1_init 84 = .ok (.putfield 35, 3) := by decide +kernel
theorem dX1_init_87 : decode cX1_init 87 = .ok (.return_, 1) := by decide +kernel
theorem dX1_size_0 : decode cX1_size 0 = .ok (.aload_n 0, 1) := by decide +kernel
theorem dX1_size_1 : decode cX1_size 1 = .ok (.getfield 35, 3) := by decide +kernel
theorem dX1_size_4 : decode cX1_size 4 = .ok (.ireturn, 1) := by decide +kernel
theorem dX1_has_0 : decode cX1_has 0 = .ok (.iload_n 1, 1) := by decide +kernel
theorem dX1_has_1 : decode cX1_has 1 = .ok (.ifCond .lt 15, 3) := by decide +kernel
theorem dX1_has_4 : decode cX1_has 4 = .ok (.iload_n 1, 1) := by decide +kernel
theorem dX1_has_5 : decode cX1_has 5 = .ok (.aload_n 0, 1) := by decide +kernel
theorem dX1_has_6 : decode cX1_has 6 = .ok (.getfield 35, 3) := by decide +kernel
theorem dX1_has_9 : decode cX1_has 9 = .ok (.if_icmp .ge 7, 3) := by decide +kernel
theorem dX1_has_12 : decode cX1_has 12 = .ok (.iconst 1, 1) := by decide +kernel
theorem dX1_has_13 : decode cX1_has 13 = .ok (.goto 4, 3) := by decide +kernel
theorem dX1_has_16 : decode cX1_has 16 = .ok (.iconst 0, 1) := by decide +kernel
theorem dX1_has_17 : decode cX1_has 17 = .ok (.ireturn, 1) := by decide +kernel
set_option maxRecDepth 20000 in
theorem ggX1_hasOrNone_X1_has : GoodIn wsX1_hasOrNone wsX1_has := goodIn_r _ [5, 6, 7, 8, 9, 10, 11, 12, 13] (by decide +kernel) (by decide +kernel)
set_option maxRecDepth 20000 in
theorem gX1_hasOrNone_X1_has : GoodIn wsX1_hasOrNone (wsV RX1 39 RX1 yX1_has wsX1_has) := goodIn_app (goodIn_of _ (by decide +kernel)) ggX1_hasOrNone_X1_has
theorem dX1_hasOrNone_0 : decode cX1_hasOrNone 0 = .ok (.iload_n 1, 1) := by decide +kernel
theorem dX1_hasOrNone_1 : decode cX1_hasOrNone 1 = .ok (.iconst (-1), 1) := by decide +kernel
theorem dX1_hasOrNone_2 : decode cX1_hasOrNone 2 = .ok (.if_icmp .eq 11, 3) := by decide +kernel
theorem dX1_hasOrNone_5 : decode cX1_hasOrNone 5 = .ok (.aload_n 0, 1) := by decide +kernel
theorem dX1_hasOrNone_6 : decode cX1_hasOrNone 6 = .ok (.iload_n 1, 1) := by decide +kernel
theorem dX1_hasOrNone_7 : decode cX1_hasOrNone 7 = .ok (.invokevirtual 39, 3) := by decide +kernel
theorem dX1_hasOrNone_10 : decode cX1_hasOrNone 10 = .ok (.ifCond .eq 7, 3) := by decide +kernel
theorem dX1_hasOrNone_13 : decode cX1_hasOrNone 13 = .ok (.iconst 1, 1) := by decide +kernel
theorem dX1_hasOrNone_14 : decode cX1_hasOrNone 14 = .ok (.goto 4, 3) := by decide +kernel
theorem dX1_hasOrNone_17 : decode cX1_hasOrNone 17 = .ok (.iconst 0, 1) := by decide +kernel
theorem dX1_hasOrNone_18 : decode cX1_hasOrNone 18 = .ok (.ireturn, 1) := by decide +kernel
set_option maxRecDepth 20000 in
theorem ggX1_areTogether_X5_at : GoodIn wsX1_areTogether wsX5_at := goodIn_r _ [6, 7, 15] (by decide +kernel) (by decide +kernel)
set_option maxRecDepth 20000 in
theorem gX1_areTogether_X5_at : GoodIn wsX1_areTogether (wsV RX1 43 RX5 yX5_at wsX5_at) := goodIn_app (goodIn_of _ (by decide +kernel)) ggX1_areTogether_X5_at
theorem dX1_areTogether_0 : decode cX1_areTogether 0 = .ok (.iload_n 2, 1) := by decide +kernel
theorem dX1_areTogether_1 : decode cX1_areTogether 1 = .ok (.iconst (-1), 1) := by decide +kernel
theorem dX1_areTogether_2 : decode cX1_areTogether 2 = .ok (.if_icmp .eq 22, 3) := by decide +kernel
theorem dX1_areTogether_5 : decode cX1_areTogether 5 = .ok (.aload_n 0, 1) := by decide +kernel
theorem dX1_areTogether_6 : decode cX1_areTogether 6 = .ok (.getfield 20, 3) := by decide +kernel
theorem dX1_areTogether_9 : decode cX1_areTogether 9 = .ok (.iload_n 2, 1) := by decide +kernel
theorem dX1_areTogether_10 : decode cX1_areTogether 10 = .ok (.invokevirtual 43, 3) := by decide +kernel
theorem dX1_areTogether_13 : decode cX1_areTogether 13 = .ok (.aload_n 0, 1) := by decide +kernel
theorem dX1_areTogether_14 : decode cX1_areTogether 14 = .ok (.getfield 20, 3) := by decide +kernel
theorem dX1_areTogether_17 : decode cX1_areTogether 17 = .ok (.iload_n 1, 1) := by decide +kernel
theorem dX1_areTogether_18 : decode cX1_areTogether 18 = .ok (.invokevirtual 43, 3) := by decide +kernel
theorem dX1_areTogether_21 : decode cX1_areTogether 21 = .ok (.if_icmp .ne 7, 3) := by decide +kernel
theorem dX1_areTogether_24 : decode cX1_areTogether 24 = .ok (.iconst 1, 1) := by decide +kernel
theorem dX1_areTogether_25 : decode cX1_areTogether 25 = .ok (.goto 4, 3) := by decide +kernel
theorem dX1_areTogether_28 : decode cX1_areTogether 28 = .ok (.iconst 0, 1) := by decide +kernel
theorem dX1_areTogether_29 : decode cX1_areTogether 29 = .ok (.ireturn, 1) := by decide +kernel
set_option maxRecDepth 20000 in
theorem ggX1_append_X5_put : GoodIn wsX1_append wsX5_put := goodIn_r _ [9, 10, 26] (by decide +kernel) (by decide +kernel)
set_option maxRecDepth 20000 in
theorem gX1_append_X5_put : GoodIn wsX1_append (wsV RX1 47 RX5 yX5_put wsX5_put) := goodIn_app (goodIn_of _ (by decide +kernel)) ggX1_append_X5_put
set_option maxRecDepth 20000 in
theorem ggX1_append_X1_setParts : GoodIn wsX1_append wsX1_setParts := goodIn_r _ [15, 16, 17, 18, 5, 6, 7, 8, 9, 10, 19, 20, 21, 22, 23, 24, 25, 26] (by decide +kernel) (by decide +kernel)
set_option maxRecDepth 20000 in
theorem gX1_append_X1_setParts : GoodIn wsX1_append (wsV RX1 51 RX1 yX1_setParts wsX1_setParts) := goodIn_app (goodIn_of _ (by decide +kernel)) ggX1_append_X1_setParts
theorem dX1_append_0 : decode cX1_append 0 = .ok (.aload_n 0, 1) := by decide +kernel
theorem dX1_append_1 : decode cX1_append 1 = .ok (.getfield 35, 3) := by decide +kernel
theorem dX1_append_4 : decode cX1_append 4 = .ok (.istore 4, 2) := by decide +kernel
theorem dX1_append_6 : decode cX1_append 6 = .ok (.aload_n 0, 1) := by decide +kernel
theorem dX1_append_7 : decode cX1_append 7 = .ok (.dup, 1) := by decide +kernel
theorem dX1_append_8 : decode cX1_append 8 = .ok (.getfield 35, 3) := by decide +kernel
theorem dX1_append_11 : decode cX1_append 11 = .ok (.iconst 1, 1) := by decide +kernel
theorem dX1_append_12 : decode cX1_append 12 = .ok (.iadd, 1) := by decide +kernel
theorem dX1_append_13 : decode cX1_append 13 = .ok (.putfield 35, 3) := by decide +kernel
theorem dX1_append_16 : decode cX1_append 16 = .ok (.aload_n 0, 1) := by decide +kernel
theorem dX1_append_17 : decode cX1_append 17 = .ok (.getfield 14, 3) := by decide +kernel
theorem dX1_append_20 : decode cX1_append 20 = .ok (.iload 4, 2) := by decide +kernel
theorem dX1_append_22 : decode cX1_append 22 = .ok (.iload_n 1, 1) := by decide +kernel
theorem dX1_append_23 : decode cX1_append 23 = .ok (.invokevirtual 47, 3) := by decide +kernel
theorem dX1_append_26 : decode cX1_append 26 = .ok (.aload_n 0, 1) := by decide +kernel
theorem dX1_append_27 : decode cX1_append 27 = .ok (.getfield 20, 3) := by decide +kernel
theorem dX1_append_30 : decode cX1_append 30 = .ok (.iload 4, 2) := by decide +kernel
theorem dX1_append_32 : decode cX1_append 32 = .ok (.iload_n 2, 1) := by decide +kernel
theorem dX1_append_33 : decode cX1_append 33 = .ok (.invokevirtual 47, 3) := by decide +kernel
theorem dX1_append_36 : decode cX1_append 36 = .ok (.aload_n 0, 1) := by decide +kernel
theorem dX1_append_37 : decode cX1_append 37 = .ok (.getfield 23, 3) := by decide +kernel
theorem dX1_append_40 : decode cX1_append 40 = .ok (.iload 4, 2) := by decide +kernel
theorem dX1_append_42 : decode cX1_append 42 = .ok (.iload_n 3, 1) := by decide +kernel
theorem dX1_append_43 : decode cX1_append 43 = .ok (.invokevirtual 47, 3) := by decide +kernel
theorem dX1_append_46 : decode cX1_append 46 = .ok (.aload_n 0, 1) := by decide +kernel
theorem dX1_append_47 : decode cX1_append 47 = .ok (.iload 4, 2) := by decide +kernel
theorem dX1_append_49 : decode cX1_append 49 = .ok (.iconst (-1), 1) := by decide +kernel
theorem dX1_append_50 : decode cX1_append 50 = .ok (.iconst (-1), 1) := by decide +kernel
theorem dX1_append_51 : decode cX1_append 51 = .ok (.iconst (-1), 1) := by decide +kernel
theorem dX1_append_52 : decode cX1_append 52 = .ok (.invokevirtual 51, 3) := by decide +kernel
theorem dX1_append_55 : decode cX1_append 55 = .ok (.iload 4, 2) := by decide +kernel
theorem dX1_append_57 : decode cX1_append 57 = .ok (.ireturn, 1) := by decide +kernel
set_option maxRecDepth 20000 in
theorem ggX1_setParts_X5_put : GoodIn wsX1_setParts wsX5_put := goodIn_r _ [8, 9, 17] (by decide +kernel) (by decide +kernel)
set_option maxRecDepth 20000 in
theorem gX1_setParts_X5_put : GoodIn wsX1_setParts (wsV RX1 47 RX5 yX5_put wsX5_put) := goodIn_app (goodIn_of _ (by decide +kernel)) ggX1_setParts_X5_put
theorem dX1_setParts_0 : decode cX1_setParts 0 = .ok (.aload_n 0, 1) := by decide +kernel
theorem dX1_setParts_1 : decode cX1_setParts 1 = .ok (.getfield 26, 3) := by decide +kernel
theorem dX1_setParts_4 : decode cX1_setParts 4 = .ok (.iload_n 1, 1) := by decide +kernel
theorem dX1_setParts_5 : decode cX1_setParts 5 = .ok (.iload_n 2, 1) := by decide +kernel
theorem dX1_setParts_6 : decode cX1_setParts 6 = .ok (.invokevirtual 47, 3) := by decide +kernel
theorem dX1_setParts_9 : decode cX1_setParts 9 = .ok (.aload_n 0, 1) := by decide +kernel
theorem dX1_setParts_10 : decode cX1_setParts 10 = .ok (.getfield 29, 3) := by decide +kernel
theorem dX1_setParts_13 : decode cX1_setParts 13 = .ok (.iload_n 1, 1) := by decide +kernel
theorem dX1_setParts_14 : decode cX1_setParts 14 = .ok (.iload_n 3, 1) := by decide +kernel
theorem dX1_setParts_15 : decode cX1_setParts 15 = .ok (.invokevirtual 47, 3) := by decide +kernel
theorem dX1_setParts_18 : decode cX1_setParts 18 = .ok (.aload_n 0, 1) := by decide +kernel
theorem dX1_setParts_19 : decode cX1_setParts 19 = .ok (.getfield 32, 3) := by decide +kernel
theorem dX1_setParts_22 : decode cX1_setParts 22 = .ok (.iload_n 1, 1) := by decide +kernel
theorem dX1_setParts_23 : decode cX1_setParts 23 = .ok (.iload 4, 2) := by decide +kernel
theorem dX1_setParts_25 : decode cX1_setParts 25 = .ok (.invokevirtual 47, 3) := by decide +kernel
theorem dX1_setParts_28 : decode cX1_setParts 28 = .ok (.return_, 1) := by decide +kernel
set_option maxRecDepth 20000 in
theorem ggX1_kind_X5_at : GoodIn wsX1_kind wsX5_at := goodIn_r _ [6, 7, 15] (by decide +kernel) (by decide +kernel)
set_option maxRecDepth 20000 in
theorem gX1_kind_X5_at : GoodIn wsX1_kind (wsV RX1 43 RX5 yX5_at wsX5_at) := goodIn_app (goodIn_of _ (by decide +kernel)) ggX1_kind_X5_at
theorem dX1_kind_0 : decode cX1_kind 0 = .ok (.aload_n 0, 1) := by decide +kernel
theorem dX1_kind_1 : decode cX1_kind 1 = .ok (.getfield 14, 3) := by decide +kernel
theorem dX1_kind_4 : decode cX1_kind 4 = .ok (.iload_n 1, 1) := by decide +kernel
theorem dX1_kind_5 : decode cX1_kind 5 = .ok (.invokevirtual 43, 3) := by decide +kernel
theorem dX1_kind_8 : decode cX1_kind 8 = .ok (.ireturn, 1) := by decide +kernel
set_option maxRecDepth 20000 in
theorem ggX1_method_X5_at : GoodIn wsX1_method wsX5_at := goodIn_r _ [6, 7, 15] (by decide +kernel) (by decide +kernel)
set_option maxRecDepth 20000 in
theorem gX1_method_X5_at : GoodIn wsX1_method (wsV RX1 43 RX5 yX5_at wsX5_at) := goodIn_app (goodIn_of _ (by decide +kernel)) ggX1_method_X5_at
theorem dX1_method_0 : decode cX1_method 0 = .ok (.aload_n 0, 1) := by decide +kernel
theorem dX1_method_1 : decode cX1_method 1 = .ok (.getfield 20, 3) := by decide +kernel
theorem dX1_method_4 : decode cX1_method 4 = .ok (.iload_n 1, 1) := by decide +kernel
theorem dX1_method_5 : decode cX1_method 5 = .ok (.invokevirtual 43, 3) := by decide +kernel
theorem dX1_method_8 : decode cX1_method 8 = .ok (.ireturn, 1) := by decide +kernel
set_option maxRecDepth 20000 in
theorem ggX1_detail_X5_at : GoodIn wsX1_detail wsX5_at := goodIn_r _ [6, 7, 15] (by decide +kernel) (by decide +kernel)
set_option maxRecDepth 20000 in
theorem gX1_detail_X5_at : GoodIn wsX1_detail (wsV RX1 43 RX5 yX5_at wsX5_at) := goodIn_app (goodIn_of _ (by decide +kernel)) ggX1_detail_X5_at
theorem dX1_detail_0 : decode cX1_detail 0 = .ok (.aload_n 0, 1) := by decide +kernel
theorem dX1_detail_1 : decode cX1_detail 1 = .ok (.getfield 23, 3) := by decide +kernel
theorem dX1_detail_4 : decode cX1_detail 4 = .ok (.iload_n 1, 1) := by decide +kernel
theorem dX1_detail_5 : decode cX1_detail 5 = .ok (.invokevirtual 43, 3) := by decide +kernel
theorem dX1_detail_8 : decode cX1_detail 8 = .ok (.ireturn, 1) := by decide +kernel
set_option maxRecDepth 20000 in
theorem ggX1_object_X5_at : GoodIn wsX1_object wsX5_at := goodIn_r _ [6, 7, 15] (by decide +kernel) (by decide +kernel)
set_option maxRecDepth 20000 in
theorem gX1_object_X5_at : GoodIn wsX1_object (wsV RX1 43 RX5 yX5_at wsX5_at) := goodIn_app (goodIn_of _ (by decide +kernel)) ggX1_object_X5_at
theorem dX1_object_0 : decode cX1_object 0 = .ok (.aload_n 0, 1) := by decide +kernel
theorem dX1_object_1 : decode cX1_object 1 = .ok (.getfield 26, 3) := by decide +kernel
theorem dX1_object_4 : decode cX1_object 4 = .ok (.iload_n 1, 1) := by decide +kernel
theorem dX1_object_5 : decode cX1_object 5 = .ok (.invokevirtual 43, 3) := by decide +kernel
theorem dX1_object_8 : decode cX1_object 8 = .ok (.ireturn, 1) := by decide +kernel
set_option maxRecDepth 20000 in
theorem ggX1_first_X5_at : GoodIn wsX1_first wsX5_at := goodIn_r _ [6, 7, 15] (by decide +kernel) (by decide +kernel)
set_option maxRecDepth 20000 in
theorem gX1_first_X5_at : GoodIn wsX1_first (wsV RX1 43 RX5 yX5_at wsX5_at) := goodIn_app (goodIn_of _ (by decide +kernel)) ggX1_first_X5_at
theorem dX1_first_0 : decode cX1_first 0 = .ok (.aload_n 0, 1) := by decide +kernel
theorem dX1_first_1 : decode cX1_first 1 = .ok (.getfield 29, 3) := by decide +kernel
theorem dX1_first_4 : decode cX1_first 4 = .ok (.iload_n 1, 1) := by decide +kernel
theorem dX1_first_5 : decode cX1_first 5 = .ok (.invokevirtual 43, 3) := by decide +kernel
theorem dX1_first_8 : decode cX1_first 8 = .ok (.ireturn, 1) := by decide +kernel
set_option maxRecDepth 20000 in
theorem ggX1_second_X5_at : GoodIn wsX1_second wsX5_at := goodIn_r _ [6, 7, 15] (by decide +kernel) (by decide +kernel)
set_option maxRecDepth 20000 in
theorem gX1_second_X5_at : GoodIn wsX1_second (wsV RX1 43 RX5 yX5_at wsX5_at) := goodIn_app (goodIn_of _ (by decide +kernel)) ggX1_second_X5_at
theorem dX1_second_0 : decode cX1_second 0 = .ok (.aload_n 0, 1) := by decide +kernel
theorem dX1_second_1 : decode cX1_second 1 = .ok (.getfield 32, 3) := by decide +kernel
theorem dX1_second_4 : decode cX1_second 4 = .ok (.iload_n 1, 1) := by decide +kernel
theorem dX1_second_5 : decode cX1_second 5 = .ok (.invokevirtual 43, 3) := by decide +kernel
theorem dX1_second_8 : decode cX1_second 8 = .ok (.ireturn, 1) := by decide +kernel
set_option maxRecDepth 20000 in
theorem ggX2_init_X5_init : GoodIn wsX2_init wsX5_init := goodIn_r _ [14, 15, 2, 3, 16, 17, 18] (by decide +kernel) (by decide +kernel)
set_option maxRecDepth 20000 in
theorem gX2_init_X5_init : GoodIn wsX2_init (wsX5_init) := ggX2_init_X5_init
theorem dX2_init_0 : decode cX2_init 0 = .ok (.aload_n 0, 1) := by decide +kernel
theorem dX2_init_1 : decode cX2_init 1 = .ok (.invokespecial 3, 3) := by decide +kernel
theorem dX2_init_4 : decode cX2_init 4 = .ok (.aload_n 0, 1) := by decide +kernel
theorem dX2_init_5 : decode cX2_init 5 = .ok (.new 9, 3) := by decide +kernel
theorem dX2_init_8 : decode cX2_init 8 = .ok (.dup, 1) := by decide +kernel
theorem dX2_init_9 : decode cX2_init 9 = .ok (.sipush 600, 3) := by decide +kernel
theorem dX2_init_12 : decode cX2_init 12 = .ok (.invokespecial 11, 3) := by decide +kernel
theorem dX2_init_15 : decode cX2_init 15 = .ok (.putfield 14, 3) := by decide +kernel
theorem dX2_init_18 : decode cX2_init 18 = .ok (.aload_n 0, 1) := by decide +kernel
theorem dX2_init_19 : decode cX2_init 19 = .ok (.new 9, 3) := by decide +kernel
theorem dX2_init_22 : decode cX2_init 22 = .ok (.dup, 1) := by decide +kernel
theorem dX2_init_23 : decode cX2_init 23 = .ok (.sipush 600, 3) := by decide +kernel
theorem dX2_init_26 : decode cX2_init 26 = .ok (.invokespecial 11, 3) := by decide +kernel
theorem dX2_init_29 : decode cX2_init 29 = .ok (.putfield 20, 3) := by decide +kernel
theorem dX2_init_32 : decode cX2_init 32 = .ok (.aload_n 0, 1) := by decide +kernel
theorem dX2_init_33 : decode cX2_init 33 = .ok (.iconst 0, 1) := by decide +kernel
theorem dX2_init_34 : decode cX2_init 34 = .ok (.putfield 23, 3) := by decide +kernel
theorem dX2_init_37 : decode cX2_init 37 = .ok (.aload_n 0, 1) := by decide +kernel
theorem dX2_init_38 : decode cX2_init 38 = .ok (.aload_n 1, 1) := by decide +kernel
theorem dX2_init_39 : decode cX2_init 39 = .ok (.putfield 27, 3) := by decide +kernel
theorem dX2_init_42 : decode cX2_init 42 = .ok (.aload_n 0, 1) := by decide +kernel
theorem dX2_init_43 : decode cX2_init 43 = .ok (.aload_n 2, 1) := by decide +kernel
theorem dX2_init_44 : decode cX2_init 44 = .ok (.putfield 31, 3) := by decide +kernel
theorem dX2_init_47 : decode cX2_init 47 = .ok (.return_, 1) := by decide +kernel
set_option maxRecDepth 20000 in
theorem ggX2_inspect_X5_fill : GoodIn wsX2_inspect wsX5_fill := goodIn_r _ [7, 8, 324] (by decide +kernel) (by decide +kernel)
set_option maxRecDepth 20000 in
theorem gX2_inspect_X5_fill : GoodIn wsX2_inspect (wsV RX2 35 RX5 yX5_fill wsX5_fill) := goodIn_app (goodIn_of _ (by decide +kernel)) ggX2_inspect_X5_fill
set_option maxRecDepth 20000 in
theorem ggX2_inspect_X8_isIn : GoodIn wsX2_inspect wsX8_isIn := goodIn_r _ [11] (by decide +kernel) (by decide +kernel)
set_option maxRecDepth 20000 in
theorem gX2_inspect_X8_isIn_n38 : GoodIn wsX2_inspect (wsX8_isIn) := ggX2_inspect_X8_isIn
set_option maxRecDepth 20000 in
theorem ggX2_inspect_X7_look : GoodIn wsX2_inspect wsX7_look := goodIn_r _ [16, 17, 18, 19, 20, 15, 21, 22, 23, 24, 25, 26, 27, 28, 29, 30, 31, 32, 33, 34, 35, 36, 37, 38, 39, 40, 41, 42, 43, 44, 45, 46, 47, 48, 49, 50, 51, 52, 53, 54, 55, 56, 57, 58, 59, 60, 61, 62, 63, 64, 6, 65, 8, 66, 67, 68, 69, 70, 71, 72, 73, 74, 75, 76, 77, 78, 79, 80, 81, 82, 83, 84, 9, 10, 11, 85, 86, 87, 88, 89, 90, 91, 92, 93, 94, 95, 96, 97, 4, 5, 7, 98, 99, 100, 101, 102, 103, 104, 105, 106, 107, 108, 109, 110, 111, 112, 113, 114, 115, 116, 117, 118, 119, 120, 121, 122, 123, 124, 125, 126, 127, 128, 129, 130, 131, 132, 133, 134, 325, 326, 327, 328, 329, 330, 331, 332, 333, 334, 335, 336, 337, 338, 339, 340, 341, 342, 343, 344, 345, 346, 347, 348, 349, 350, 351, 352, 353, 354, 355, 356, 357, 358, 324] (by decide +kernel) (by decide +kernel)
set_option maxRecDepth 20000 in
theorem gX2_inspect_X7_look : GoodIn wsX2_inspect (wsV RX2 42 RX7 yX7_look wsX7_look) := goodIn_app (goodIn_of _ (by decide +kernel)) ggX2_inspect_X7_look
set_option maxRecDepth 20000 in
theorem ggX2_inspect_X7_giveTypes : GoodIn wsX2_inspect wsX7_giveTypes := goodIn_r _ [138, 22, 139, 140, 141, 17, 142, 31, 32, 33, 34, 35, 143, 80, 81, 82, 83, 84, 63, 64, 6, 65, 8, 99, 100, 101, 15, 102, 23, 103, 9, 10, 11, 144, 145, 146, 147, 148, 149, 150, 151, 152, 153, 154, 155, 156, 157, 158, 159, 160, 161, 162, 163, 164, 165, 166, 167, 168, 169, 170, 171, 172, 173, 174, 175, 176, 177, 178, 179, 180, 181, 182, 183, 184, 185, 186, 187, 188, 189, 190, 191, 192, 193, 194, 195, 113, 93, 132, 133, 134, 196, 197, 198, 199, 114, 200, 201, 202, 70, 203, 204, 205, 73, 206, 207, 208, 209, 210, 211, 212, 213, 108, 214, 215, 216, 217, 121, 68, 69, 71, 72, 218, 219, 220, 221, 222, 85, 86, 87, 88, 325, 326, 327, 328, 329, 330, 331, 332, 333, 334, 335, 336, 337, 338, 339, 340, 341, 342, 343, 344, 345, 346, 347, 324, 348, 349, 350, 351, 352, 353, 354] (by decide +kernel) (by decide +kernel)
set_option maxRecDepth 20000 in
theorem gX2_inspect_X7_giveTypes : GoodIn wsX2_inspect (wsV RX2 47 RX7 yX7_giveTypes wsX7_giveTypes) := goodIn_app (goodIn_of _ (by decide +kernel)) ggX2_inspect_X7_giveTypes
set_option maxRecDepth 20000 in
theorem ggX2_inspect_X2_checkLinks : GoodIn wsX2_inspect wsX2_checkLinks := goodIn_r _ [227, 228, 229, 2, 230, 231, 232, 46, 47, 48, 49, 50, 233, 234, 235, 15, 236, 22, 17, 237, 37, 38, 27, 39, 40, 41, 42, 43, 44, 238, 58, 59, 60, 61, 62, 63, 64, 6, 65, 8, 9, 10, 11, 239, 240, 100, 101, 102, 23, 103, 241, 242, 243, 226, 244, 1, 245, 86, 87, 88, 319, 320, 321, 322, 323, 333, 334, 335, 336, 337, 338, 339, 340, 355, 356, 357, 358, 325, 326, 327, 328, 329, 330, 331, 332, 348, 349, 350, 351, 352, 353, 354, 324] (by decide +kernel) (by decide +kernel)
set_option maxRecDepth 20000 in
theorem gX2_inspect_X2_checkLinks : GoodIn wsX2_inspect (wsV RX2 50 RX2 yX2_checkLinks wsX2_checkLinks) := goodIn_app (goodIn_of _ (by decide +kernel)) ggX2_inspect_X2_checkLinks
set_option maxRecDepth 20000 in
theorem ggX2_inspect_X2_checkClasses : GoodIn wsX2_inspect wsX2_checkClasses := goodIn_r _ [249, 228, 250, 2, 232, 46, 47, 48, 49, 50, 240, 100, 101, 15, 102, 23, 103, 63, 64, 6, 65, 8, 9, 10, 11, 251, 252, 253, 226, 254, 229, 230, 239, 241, 242, 243, 244, 1, 245, 86, 87, 88, 255, 256, 257, 258, 108, 319, 320, 321, 322, 323, 333, 334, 335, 336, 337, 338, 339, 340, 355, 356, 357, 358, 325, 326, 327, 328, 329, 330, 331, 332, 324] (by decide +kernel) (by decide +kernel)
set_option maxRecDepth 20000 in
theorem gX2_inspect_X2_checkClasses : GoodIn wsX2_inspect (wsV RX2 53 RX2 yX2_checkClasses wsX2_checkClasses) := goodIn_app (goodIn_of _ (by decide +kernel)) ggX2_inspect_X2_checkClasses
set_option maxRecDepth 20000 in
theorem ggX2_inspect_X2_checkMembers : GoodIn wsX2_inspect wsX2_checkMembers := goodIn_r _ [262, 228, 263, 2, 264, 116, 117, 70, 118, 119, 120, 46, 47, 48, 49, 50, 240, 100, 101, 15, 102, 23, 103, 63, 64, 6, 65, 8, 9, 10, 11, 265, 266, 267, 226, 268, 269, 219, 220, 221, 222, 73, 270, 271, 272, 273, 99, 274, 201, 202, 203, 204, 205, 241, 242, 243, 244, 1, 239, 245, 86, 87, 88, 275, 276, 277, 278, 113, 22, 114, 121, 68, 69, 71, 72, 122, 123, 124, 125, 126, 127, 128, 129, 130, 131, 132, 133, 134, 279, 280, 281, 282, 283, 284, 285, 286, 287, 288, 93, 289, 290, 193, 194, 195, 291, 211, 212, 213, 108, 233, 234, 235, 236, 17, 237, 37, 38, 27, 39, 40, 41, 42, 43, 44, 238, 58, 59, 60, 61, 62, 319, 320, 321, 322, 323, 333, 334, 335, 336, 337, 338, 339, 340, 348, 349, 350, 351, 352, 353, 354, 355, 356, 357, 358, 325, 326, 327, 328, 329, 330, 331, 332, 324] (by decide +kernel) (by decide +kernel)
set_option maxRecDepth 20000 in
theorem gX2_inspect_X2_checkMembers : GoodIn wsX2_inspect (wsV RX2 56 RX2 yX2_checkMembers wsX2_checkMembers) := goodIn_app (goodIn_of _ (by decide +kernel)) ggX2_inspect_X2_checkMembers
set_option maxRecDepth 20000 in
theorem ggX2_inspect_X2_checkExpressions : GoodIn wsX2_inspect wsX2_checkExpressions := goodIn_r _ [295, 228, 296, 2, 297, 31, 32, 33, 34, 35, 298, 299, 300, 15, 301, 140, 103, 63, 64, 6, 65, 8, 241, 242, 243, 226, 244, 1, 239, 245, 86, 87, 88, 319, 320, 321, 322, 323, 333, 334, 335, 336, 337, 338, 339, 340, 341, 342, 343, 344, 345, 346, 347, 325, 326, 327, 328, 329, 330, 331, 332, 324] (by decide +kernel) (by decide +kernel)
set_option maxRecDepth 20000 in
theorem gX2_inspect_X2_checkExpressions : GoodIn wsX2_inspect (wsV RX2 59 RX2 yX2_checkExpressions wsX2_checkExpressions) := goodIn_app (goodIn_of _ (by decide +kernel)) ggX2_inspect_X2_checkExpressions
set_option maxRecDepth 20000 in
theorem ggX2_inspect_X2_checkResults : GoodIn wsX2_inspect wsX2_checkResults := goodIn_r _ [305, 228, 306, 2, 307, 263, 232, 46, 47, 48, 49, 50, 239, 63, 64, 6, 65, 8, 308, 309, 310, 15, 311, 141, 161, 162, 163, 103, 240, 100, 101, 102, 23, 9, 10, 11, 312, 75, 76, 27, 77, 29, 78, 66, 79, 80, 81, 33, 82, 83, 84, 269, 219, 220, 70, 221, 222, 73, 291, 211, 212, 213, 108, 241, 242, 243, 226, 244, 1, 245, 86, 87, 88, 319, 320, 321, 322, 323, 333, 334, 335, 336, 337, 338, 339, 340, 355, 356, 357, 358, 324, 325, 326, 327, 328, 329, 330, 331, 332, 341, 342, 343, 344, 345, 346, 347, 348, 349, 350, 351, 352, 353, 354] (by decide +kernel) (by decide +kernel)
set_option maxRecDepth 20000 in
theorem gX2_inspect_X2_checkResults : GoodIn wsX2_inspect (wsV RX2 62 RX2 yX2_checkResults wsX2_checkResults) := goodIn_app (goodIn_of _ (by decide +kernel)) ggX2_inspect_X2_checkResults
set_option maxRecDepth 20000 in
theorem ggX2_inspect_X2_numberErrors : GoodIn wsX2_inspect wsX2_numberErrors := goodIn_r _ [316, 317, 1, 318, 239, 63, 64, 6, 65, 8, 245, 86, 87, 88, 319, 320, 321, 322, 323, 324] (by decide +kernel) (by decide +kernel)
set_option maxRecDepth 20000 in
theorem gX2_inspect_X2_numberErrors : GoodIn wsX2_inspect (wsV RX2 65 RX2 yX2_numberErrors wsX2_numberErrors) := goodIn_app (goodIn_of _ (by decide +kernel)) ggX2_inspect_X2_numberErrors
theorem dX2_inspect_0 : decode cX2_inspect 0 = .ok (.aload_n 0, 1) := by decide +kernel
theorem dX2_inspect_1 : decode cX2_inspect 1 = .ok (.getfield 14, 3) := by decide +kernel
theorem dX2_inspect_4 : decode cX2_inspect 4 = .ok (.iconst 0, 1) := by decide +kernel
theorem dX2_inspect_5 : decode cX2_inspect 5 = .ok (.invokevirtual 35, 3) := by decide +kernel
theorem dX2_inspect_8 : decode cX2_inspect 8 = .ok (.iconst 0, 1) := by decide +kernel
theorem dX2_inspect_9 : decode cX2_inspect 9 = .ok (.istore_n 2, 1) := by decide +kernel
theorem dX2_inspect_10 : decode cX2_inspect 10 = .ok (.iload_n 2, 1) := by decide +kernel
theorem dX2_inspect_11 : decode cX2_inspect 11 = .ok (.bipush 16, 2) := by decide +kernel
theorem dX2_inspect_13 : decode cX2_inspect 13 = .ok (.if_icmp .ge 57, 3) := by decide +kernel
theorem dX2_inspect_16 : decode cX2_inspect 16 = .ok (.iload_n 1, 1) := by decide +kernel
theorem dX2_inspect_17 : decode cX2_inspect 17 = .ok (.iload_n 2, 1) := by decide +kernel
theorem dX2_inspect_18 : decode cX2_inspect 18 = .ok (.invokestatic 38, 3) := by decide +kernel
theorem dX2_inspect_21 : decode cX2_inspect 21 = .ok (.ifCond .eq 43, 3) := by decide +kernel
theorem dX2_inspect_24 : decode cX2_inspect 24 = .ok (.aload_n 0, 1) := by decide +kernel
theorem dX2_inspect_25 : decode cX2_inspect 25 = .ok (.getfield 31, 3) := by decide +kernel
theorem dX2_inspect_28 : decode cX2_inspect 28 = .ok (.iload_n 2, 1) := by decide +kernel
theorem dX2_inspect_29 : decode cX2_inspect 29 = .ok (.invokevirtual 42, 3) := by decide +kernel
theorem dX2_inspect_32 : decode cX2_inspect 32 = .ok (.aload_n 0, 1) := by decide +kernel
theorem dX2_inspect_33 : decode cX2_inspect 33 = .ok (.getfield 31, 3) := by decide +kernel
theorem dX2_inspect_36 : decode cX2_inspect 36 = .ok (.invokevirtual 47, 3) := by decide +kernel
theorem dX2_inspect_39 : decode cX2_inspect 39 = .ok (.aload_n 0, 1) := by decide +kernel
theorem dX2_inspect_40 : decode cX2_inspect 40 = .ok (.iload_n 2, 1) := by decide +kernel
theorem dX2_inspect_41 : decode cX2_inspect 41 = .ok (.invokevirtual 50, 3) := by decide +kernel
theorem dX2_inspect_44 : decode cX2_inspect 44 = .ok (.aload_n 0, 1) := by decide +kernel
theorem dX2_inspect_45 : decode cX2_inspect 45 = .ok (.iload_n 2, 1) := by decide +kernel
theorem dX2_inspect_46 : decode cX2_inspect 46 = .ok (.invokevirtual 53, 3) := by decide +kernel
theorem dX2_inspect_49 : decode cX2_inspect 49 = .ok (.aload_n 0, 1) := by decide +kernel
theorem dX2_inspect_50 : decode cX2_inspect 50 = .ok (.iload_n 2, 1) := by decide +kernel
theorem dX2_inspect_51 : decode cX2_inspect 51 = .ok (.invokevirtual 56, 3) := by decide +kernel
theorem dX2_inspect_54 : decode cX2_inspect 54 = .ok (.aload_n 0, 1) := by decide +kernel
theorem dX2_inspect_55 : decode cX2_inspect 55 = .ok (.iload_n 2, 1) := by decide +kernel
theorem dX2_inspect_56 : decode cX2_inspect 56 = .ok (.invokevirtual 59, 3) := by decide +kernel
theorem dX2_inspect_59 : decode cX2_inspect 59 = .ok (.aload_n 0, 1) := by decide +kernel
theorem dX2_inspect_60 : decode cX2_inspect 60 = .ok (.iload_n 2, 1) := by decide +kernel
theorem dX2_inspect_61 : decode cX2_inspect 61 = .ok (.invokevirtual 62, 3) := by decide +kernel
theorem dX2_inspect_64 : decode cX2_inspect 64 = .ok (.iinc 2 1, 3) := by decide +kernel
theorem dX2_inspect_67 : decode cX2_inspect 67 = .ok (.goto (-57), 3) := by decide +kernel
theorem dX2_inspect_70 : decode cX2_inspect 70 = .ok (.aload_n 0, 1) := by decide +kernel
theorem dX2_inspect_71 : decode cX2_inspect 71 = .ok (.invokevirtual 65, 3) := by decide +kernel
theorem dX2_inspect_74 : decode cX2_inspect 74 = .ok (.return_, 1) := by decide +kernel
theorem dX2_size_0 : decode cX2_size 0 = .ok (.aload_n 0, 1) := by decide +kernel
theorem dX2_size_1 : decode cX2_size 1 = .ok (.getfield 23, 3) := by decide +kernel
theorem dX2_size_4 : decode cX2_size 4 = .ok (.ireturn, 1) := by decide +kernel
set_option maxRecDepth 20000 in
theorem ggX2_kindOf_X5_at : GoodIn wsX2_kindOf wsX5_at := goodIn_r _ [6, 7, 13] (by decide +kernel) (by decide +kernel)
set_option maxRecDepth 20000 in
theorem gX2_kindOf_X5_at : GoodIn wsX2_kindOf (wsV RX2 68 RX5 yX5_at wsX5_at) := goodIn_app (goodIn_of _ (by decide +kernel)) ggX2_kindOf_X5_at
theorem dX2_kindOf_0 : decode cX2_kindOf 0 = .ok (.aload_n 0, 1) := by decide +kernel
theorem dX2_kindOf_1 : decode cX2_kindOf 1 = .ok (.getfield 20, 3) := by decide +kernel
theorem dX2_kindOf_4 : decode cX2_kindOf 4 = .ok (.iload_n 1, 1) := by decide +kernel
theorem dX2_kindOf_5 : decode cX2_kindOf 5 = .ok (.invokevirtual 68, 3) := by decide +kernel
theorem dX2_kindOf_8 : decode cX2_kindOf 8 = .ok (.bipush 50, 2) := by decide +kernel
theorem dX2_kindOf_10 : decode cX2_kindOf 10 = .ok (.idiv, 1) := by decide +kernel
theorem dX2_kindOf_11 : decode cX2_kindOf 11 = .ok (.iconst 1, 1) := by decide +kernel
theorem dX2_kindOf_12 : decode cX2_kindOf 12 = .ok (.iadd, 1) := by decide +kernel
theorem dX2_kindOf_13 : decode cX2_kindOf 13 = .ok (.ireturn, 1) := by decide +kernel
set_option maxRecDepth 20000 in
theorem ggX2_elementOf_X5_at : GoodIn wsX2_elementOf wsX5_at := goodIn_r _ [6, 7, 13] (by decide +kernel) (by decide +kernel)
set_option maxRecDepth 20000 in
theorem gX2_elementOf_X5_at : GoodIn wsX2_elementOf (wsV RX2 68 RX5 yX5_at wsX5_at) := goodIn_app (goodIn_of _ (by decide +kernel)) ggX2_elementOf_X5_at
theorem dX2_elementOf_0 : decode cX2_elementOf 0 = .ok (.aload_n 0, 1) := by decide +kernel
theorem dX2_elementOf_1 : decode cX2_elementOf 1 = .ok (.getfield 20, 3) := by decide +kernel
theorem dX2_elementOf_4 : decode cX2_elementOf 4 = .ok (.iload_n 1, 1) := by decide +kernel
theorem dX2_elementOf_5 : decode cX2_elementOf 5 = .ok (.invokevirtual 68, 3) := by decide +kernel
theorem dX2_elementOf_8 : decode cX2_elementOf 8 = .ok (.bipush 50, 2) := by decide +kernel
theorem dX2_elementOf_10 : decode cX2_elementOf 10 = .ok (.irem, 1) := by decide +kernel
theorem dX2_elementOf_11 : decode cX2_elementOf 11 = .ok (.ireturn, 1) := by decide +kernel
set_option maxRecDepth 20000 in
theorem ggX2_productsOf_X5_at : GoodIn wsX2_productsOf wsX5_at := goodIn_r _ [7, 8, 14] (by decide +kernel) (by decide +kernel)
set_option maxRecDepth 20000 in
theorem gX2_productsOf_X5_at : GoodIn wsX2_productsOf (wsV RX2 68 RX5 yX5_at wsX5_at) := goodIn_app (goodIn_of _ (by decide +kernel)) ggX2_productsOf_X5_at
theorem dX2_productsOf_0 : decode cX2_productsOf 0 = .ok (.aload_n 0, 1) := by decide +kernel
theorem dX2_productsOf_1 : decode cX2_productsOf 1 = .ok (.getfield 14, 3) := by decide +kernel
theorem dX2_productsOf_4 : decode cX2_productsOf 4 = .ok (.aload_n 0, 1) := by decide +kernel
theorem dX2_productsOf_5 : decode cX2_productsOf 5 = .ok (.getfield 20, 3) := by decide +kernel
theorem dX2_productsOf_8 : decode cX2_productsOf 8 = .ok (.iload_n 1, 1) := by decide +kernel
theorem dX2_productsOf_9 : decode cX2_productsOf 9 = .ok (.invokevirtual 68, 3) := by decide +kernel
theorem dX2_productsOf_12 : decode cX2_productsOf 12 = .ok (.invokevirtual 68, 3) := by decide +kernel
theorem dX2_productsOf_15 : decode cX2_productsOf 15 = .ok (.ireturn, 1) := by decide +kernel
set_option maxRecDepth 20000 in
theorem ggX2_sizeIn_X2_productsOf : GoodIn wsX2_sizeIn wsX2_productsOf := goodIn_r _ [6, 7, 8, 9, 10, 11, 12, 13, 14, 18, 19, 20, 21, 22, 23] (by decide +kernel) (by decide +kernel)
set_option maxRecDepth 20000 in
theorem gX2_sizeIn_X2_productsOf : GoodIn wsX2_sizeIn (wsV RX2 72 RX2 yX2_productsOf wsX2_productsOf) := goodIn_app (goodIn_of _ (by decide +kernel)) ggX2_sizeIn_X2_productsOf
set_option maxRecDepth 20000 in
theorem ggX2_sizeIn_X8_isIn : GoodIn wsX2_sizeIn wsX8_isIn := goodIn_r _ [17] (by decide +kernel) (by decide +kernel)
set_option maxRecDepth 20000 in
theorem gX2_sizeIn_X8_isIn_n38 : GoodIn wsX2_sizeIn (wsX8_isIn) := ggX2_sizeIn_X8_isIn
theorem dX2_sizeIn_0 : decode cX2_sizeIn 0 = .ok (.iconst 0, 1) := by decide +kernel
theorem dX2_sizeIn_1 : decode cX2_sizeIn 1 = .ok (.istore_n 2, 1) := by decide +kernel
theorem dX2_sizeIn_2 : decode cX2_sizeIn 2 = .ok (.iconst 0, 1) := by decide +kernel
theorem dX2_sizeIn_3 : decode cX2_sizeIn 3 = .ok (.istore_n 3, 1) := by decide +kernel
theorem dX2_sizeIn_4 : decode cX2_sizeIn 4 = .ok (.iload_n 3, 1) := by decide +kernel
theorem dX2_sizeIn_5 : decode cX2_sizeIn 5 = .ok (.aload_n 0, 1) := by decide +kernel
theorem dX2_sizeIn_6 : decode cX2_sizeIn 6 = .ok (.getfield 23, 3) := by decide +kernel
theorem dX2_sizeIn_9 : decode cX2_sizeIn 9 = .ok (.if_icmp .ge 24, 3) := by decide +kernel
theorem dX2_sizeIn_12 : decode cX2_sizeIn 12 = .ok (.aload_n 0, 1) := by decide +kernel
theorem dX2_sizeIn_13 : decode cX2_sizeIn 13 = .ok (.iload_n 3, 1) := by decide +kernel
theorem dX2_sizeIn_14 : decode cX2_sizeIn 14 = .ok (.invokevirtual 72, 3) := by decide +kernel
theorem dX2_sizeIn_17 : decode cX2_sizeIn 17 = .ok (.iload_n 1, 1) := by decide +kernel
theorem dX2_sizeIn_18 : decode cX2_sizeIn 18 = .ok (.invokestatic 38, 3) := by decide +kernel
theorem dX2_sizeIn_21 : decode cX2_sizeIn 21 = .ok (.ifCond .eq 6, 3) := by decide +kernel
theorem dX2_sizeIn_24 : decode cX2_sizeIn 24 = .ok (.iinc 2 1, 3) := by decide +kernel
theorem dX2_sizeIn_27 : decode cX2_sizeIn 27 = .ok (.iinc 3 1, 3) := by decide +kernel
theorem dX2_sizeIn_30 : decode cX2_sizeIn 30 = .ok (.goto (-26), 3) := by decide +kernel
theorem dX2_sizeIn_33 : decode cX2_sizeIn 33 = .ok (.iload_n 2, 1) := by decide +kernel
theorem dX2_sizeIn_34 : decode cX2_sizeIn 34 = .ok (.ireturn, 1) := by decide +kernel
set_option maxRecDepth 20000 in
theorem ggX2_wrongProducts_X2_productsOf : GoodIn wsX2_wrongProducts wsX2_productsOf := goodIn_r _ [6, 7, 8, 9, 10, 11, 12, 13, 14, 15, 16, 17, 18, 19, 20] (by decide +kernel) (by decide +kernel)
set_option maxRecDepth 20000 in
theorem gX2_wrongProducts_X2_productsOf : GoodIn wsX2_wrongProducts (wsV RX2 72 RX2 yX2_productsOf wsX2_productsOf) := goodIn_app (goodIn_of _ (by decide +kernel)) ggX2_wrongProducts_X2_productsOf
theorem dX2_wrongProducts_0 : decode cX2_wrongProducts 0 = .ok (.iconst 0, 1) := by decide +kernel
theorem dX2_wrongProducts_1 : decode cX2_wrongProducts 1 = .ok (.istore_n 1, 1) := by decide +kernel
theorem dX2_wrongProducts_2 : decode cX2_wrongProducts 2 = .ok (.iconst 0, 1) := by decide +kernel
theorem dX2_wrongProducts_3 : decode cX2_wrongProducts 3 = .ok (.istore_n 2, 1) := by decide +kernel
theorem dX2_wrongProducts_4 : decode cX2_wrongProducts 4 = .ok (.iload_n 2, 1) := by decide +kernel
theorem dX2_wrongProducts_5 : decode cX2_wrongProducts 5 = .ok (.aload_n 0, 1) := by decide +kernel
theorem dX2_wrongProducts_6 : decode cX2_wrongProducts 6 = .ok (.getfield 23, 3) := by decide +kernel
theorem dX2_wrongProducts_9 : decode cX2_wrongProducts 9 = .ok (.if_icmp .ge 17, 3) := by decide +kernel
theorem dX2_wrongProducts_12 : decode cX2_wrongProducts 12 = .ok (.iload_n 1, 1) := by decide +kernel
theorem dX2_wrongProducts_13 : decode cX2_wrongProducts 13 = .ok (.aload_n 0, 1) := by decide +kernel
theorem dX2_wrongProducts_14 : decode cX2_wrongProducts 14 = .ok (.iload_n 2, 1) := by decide +kernel
theorem dX2_wrongProducts_15 : decode cX2_wrongProducts 15 = .ok (.invokevirtual 72, 3) := by decide +kernel
theorem dX2_wrongProducts_18 : decode cX2_wrongProducts 18 = .ok (.ior, 1) := by decide +kernel
theorem dX2_wrongProducts_19 : decode cX2_wrongProducts 19 = .ok (.istore_n 1, 1) := by decide +kernel
theorem dX2_wrongProducts_20 : decode cX2_wrongProducts 20 = .ok (.iinc 2 1, 3) := by decide +kernel
theorem dX2_wrongProducts_23 : decode cX2_wrongProducts 23 = .ok (.goto (-19), 3) := by decide +kernel
theorem dX2_wrongProducts_26 : decode cX2_wrongProducts 26 = .ok (.iload_n 1, 1) := by decide +kernel
theorem dX2_wrongProducts_27 : decode cX2_wrongProducts 27 = .ok (.ireturn, 1) := by decide +kernel
set_option maxRecDepth 20000 in
theorem ggX2_numberErrors_X5_at : GoodIn wsX2_numberErrors wsX5_at := goodIn_r _ [8, 9, 19] (by decide +kernel) (by decide +kernel)
set_option maxRecDepth 20000 in
theorem gX2_numberErrors_X5_at : GoodIn wsX2_numberErrors (wsV RX2 68 RX5 yX5_at wsX5_at) := goodIn_app (goodIn_of _ (by decide +kernel)) ggX2_numberErrors_X5_at
set_option maxRecDepth 20000 in
theorem ggX2_numberErrors_X5_put : GoodIn wsX2_numberErrors wsX5_put := goodIn_r _ [13, 9, 19] (by decide +kernel) (by decide +kernel)
set_option maxRecDepth 20000 in
theorem gX2_numberErrors_X5_put : GoodIn wsX2_numberErrors (wsV RX2 75 RX5 yX5_put wsX5_put) := goodIn_app (goodIn_of _ (by decide +kernel)) ggX2_numberErrors_X5_put
theorem dX2_numberErrors_0 : decode cX2_numberErrors 0 = .ok (.aload_n 0, 1) := by decide +kernel
theorem dX2_numberErrors_1 : decode cX2_numberErrors 1 = .ok (.iconst 0, 1) := by decide +kernel
theorem dX2_numberErrors_2 : decode cX2_numberErrors 2 = .ok (.putfield 23, 3) := by decide +kernel
theorem dX2_numberErrors_5 : decode cX2_numberErrors 5 = .ok (.iconst 0, 1) := by decide +kernel
theorem dX2_numberErrors_6 : decode cX2_numberErrors 6 = .ok (.istore_n 1, 1) := by decide +kernel
theorem dX2_numberErrors_7 : decode cX2_numberErrors 7 = .ok (.iload_n 1, 1) := by decide +kernel
theorem dX2_numberErrors_8 : decode cX2_numberErrors 8 = .ok (.sipush 600, 3) := by decide +kernel
theorem dX2_numberErrors_11 : decode cX2_numberErrors 11 = .ok (.if_icmp .ge 42, 3) := by decide +kernel
theorem dX2_numberErrors_14 : decode cX2_numberErrors 14 = .ok (.aload_n 0, 1) := by decide +kernel
theorem dX2_numberErrors_15 : decode cX2_numberErrors 15 = .ok (.getfield 14, 3) := by decide +kernel
theorem dX2_numberErrors_18 : decode cX2_numberErrors 18 = .ok (.iload_n 1, 1) := by decide +kernel
theorem dX2_numberErrors_19 : decode cX2_numberErrors 19 = .ok (.invokevirtual 68, 3) := by decide +kernel
theorem dX2_numberErrors_22 : decode cX2_numberErrors 22 = .ok (.ifCond .eq 25, 3) := by decide +kernel
theorem dX2_numberErrors_25 : decode cX2_numberErrors 25 = .ok (.aload_n 0, 1) := by decide +kernel
theorem dX2_numberErrors_26 : decode cX2_numberErrors 26 = .ok (.getfield 20, 3) := by decide +kernel
theorem dX2_numberErrors_29 : decode cX2_numberErrors 29 = .ok (.aload_n 0, 1) := by decide +kernel
theorem dX2_numberErrors_30 : decode cX2_numberErrors 30 = .ok (.getfield 23, 3) := by decide +kernel
theorem dX2_numberErrors_33 : decode cX2_numberErrors 33 = .ok (.iload_n 1, 1) := by decide +kernel
theorem dX2_numberErrors_34 : decode cX2_numberErrors 34 = .ok (.invokevirtual 75, 3) := by decide +kernel
theorem dX2_numberErrors_37 : decode cX2_numberErrors 37 = .ok (.aload_n 0, 1) := by decide +kernel
theorem dX2_numberErrors_38 : decode cX2_numberErrors 38 = .ok (.dup, 1) := by decide +kernel
theorem dX2_numberErrors_39 : decode cX2_numberErrors 39 = .ok (.getfield 23, 3) := by decide +kernel
theorem dX2_numberErrors_42 : decode cX2_numberErrors 42 = .ok (.iconst 1, 1) := by decide +kernel
theorem dX2_numberErrors_43 : decode cX2_numberErrors 43 = .ok (.iadd, 1) := by decide +kernel
theorem dX2_numberErrors_44 : decode cX2_numberErrors 44 = .ok (.putfield 23, 3) := by decide +kernel
theorem dX2_numberErrors_47 : decode cX2_numberErrors 47 = .ok (.iinc 1 1, 3) := by decide +kernel
theorem dX2_numberErrors_50 : decode cX2_numberErrors 50 = .ok (.goto (-43), 3) := by decide +kernel
theorem dX2_numberErrors_53 : decode cX2_numberErrors 53 = .ok (.return_, 1) := by decide +kernel
set_option maxRecDepth 20000 in
theorem ggX2_note_X5_at : GoodIn wsX2_note wsX5_at := goodIn_r _ [6, 7, 17] (by decide +kernel) (by decide +kernel)
set_option maxRecDepth 20000 in
theorem gX2_note_X5_at : GoodIn wsX2_note (wsV RX2 68 RX5 yX5_at wsX5_at) := goodIn_app (goodIn_of _ (by decide +kernel)) ggX2_note_X5_at
set_option maxRecDepth 20000 in
theorem ggX2_note_X5_put : GoodIn wsX2_note wsX5_put := goodIn_r _ [11, 7, 17] (by decide +kernel) (by decide +kernel)
set_option maxRecDepth 20000 in
theorem gX2_note_X5_put : GoodIn wsX2_note (wsV RX2 75 RX5 yX5_put wsX5_put) := goodIn_app (goodIn_of _ (by decide +kernel)) ggX2_note_X5_put
theorem dX2_note_0 : decode cX2_note 0 = .ok (.iload_n 1, 1) := by decide +kernel
theorem dX2_note_1 : decode cX2_note 1 = .ok (.iconst 1, 1) := by decide +kernel
theorem dX2_note_2 : decode cX2_note 2 = .ok (.isub, 1) := by decide +kernel
theorem dX2_note_3 : decode cX2_note 3 = .ok (.bipush 50, 2) := by decide +kernel
theorem dX2_note_5 : decode cX2_note 5 = .ok (.imul, 1) := by decide +kernel
theorem dX2_note_6 : decode cX2_note 6 = .ok (.iload_n 2, 1) := by decide +kernel
theorem dX2_note_7 : decode cX2_note 7 = .ok (.iadd, 1) := by decide +kernel
theorem dX2_note_8 : decode cX2_note 8 = .ok (.istore 4, 2) := by decide +kernel
theorem dX2_note_10 : decode cX2_note 10 = .ok (.aload_n 0, 1) := by decide +kernel
theorem dX2_note_11 : decode cX2_note 11 = .ok (.getfield 14, 3) := by decide +kernel
theorem dX2_note_14 : decode cX2_note 14 = .ok (.iload 4, 2) := by decide +kernel
theorem dX2_note_16 : decode cX2_note 16 = .ok (.aload_n 0, 1) := by decide +kernel
theorem dX2_note_17 : decode cX2_note 17 = .ok (.getfield 14, 3) := by decide +kernel
theorem dX2_note_20 : decode cX2_note 20 = .ok (.iload 4, 2) := by decide +kernel
theorem dX2_note_22 : decode cX2_note 22 = .ok (.invokevirtual 68, 3) := by decide +kernel
theorem dX2_note_25 : decode cX2_note 25 = .ok (.iconst 1, 1) := by decide +kernel
theorem dX2_note_26 : decode cX2_note 26 = .ok (.iload_n 3, 1) := by decide +kernel
theorem dX2_note_27 : decode cX2_note 27 = .ok (.ishl, 1) := by decide +kernel
theorem dX2_note_28 : decode cX2_note 28 = .ok (.ior, 1) := by decide +kernel
theorem dX2_note_29 : decode cX2_note 29 = .ok (.invokevirtual 75, 3) := by decide +kernel
theorem dX2_note_32 : decode cX2_note 32 = .ok (.return_, 1) := by decide +kernel
set_option maxRecDepth 20000 in
theorem ggX2_checkLinks_X0_size : GoodIn wsX2_checkLinks wsX0_size := goodIn_r _ [10, 11, 73, 74, 75, 76] (by decide +kernel) (by decide +kernel)
set_option maxRecDepth 20000 in
theorem gX2_checkLinks_X0_size : GoodIn wsX2_checkLinks (wsV RX2 85 RX0 yX0_size wsX0_size) := goodIn_app (goodIn_of _ (by decide +kernel)) ggX2_checkLinks_X0_size
set_option maxRecDepth 20000 in
theorem ggX2_checkLinks_X7_isConditionTrue : GoodIn wsX2_checkLinks wsX7_isConditionTrue := goodIn_r _ [16, 17, 18, 19, 20, 21, 22, 23, 24, 25, 26, 27, 28, 29, 30, 31, 9, 32, 33, 34, 35, 36, 37, 38, 39, 40, 41, 42, 77, 78, 79, 80, 81, 82, 83, 84, 65, 66, 67, 68, 69, 70, 71, 72, 85, 86, 87, 88, 89, 90, 91, 73, 74, 75, 76, 92] (by decide +kernel) (by decide +kernel)
set_option maxRecDepth 20000 in
theorem gX2_checkLinks_X7_isConditionTrue : GoodIn wsX2_checkLinks (wsV RX2 90 RX7 yX7_isConditionTrue wsX7_isConditionTrue) := goodIn_app (goodIn_of _ (by decide +kernel)) ggX2_checkLinks_X7_isConditionTrue
set_option maxRecDepth 20000 in
theorem ggX2_checkLinks_X5_at : GoodIn wsX2_checkLinks wsX5_at := goodIn_r _ [38, 39, 92] (by decide +kernel) (by decide +kernel)
set_option maxRecDepth 20000 in
theorem gX2_checkLinks_X5_at : GoodIn wsX2_checkLinks (wsV RX2 68 RX5 yX5_at wsX5_at) := goodIn_app (goodIn_of _ (by decide +kernel)) ggX2_checkLinks_X5_at
set_option maxRecDepth 20000 in
theorem ggX2_checkLinks_X7_isThere : GoodIn wsX2_checkLinks wsX7_isThere := goodIn_r _ [47, 48, 49, 35, 36, 37, 38, 39, 40, 41, 42, 77, 78, 79, 80, 81, 82, 83, 84, 92] (by decide +kernel) (by decide +kernel)
set_option maxRecDepth 20000 in
theorem gX2_checkLinks_X7_isThere : GoodIn wsX2_checkLinks (wsV RX2 96 RX7 yX7_isThere wsX7_isThere) := goodIn_app (goodIn_of _ (by decide +kernel)) ggX2_checkLinks_X7_isThere
set_option maxRecDepth 20000 in
theorem ggX2_checkLinks_X2_note : GoodIn wsX2_checkLinks wsX2_note := goodIn_r _ [54, 55, 43, 35, 36, 37, 38, 39, 56, 57, 58, 59, 60, 61, 62, 63, 64, 92] (by decide +kernel) (by decide +kernel)
set_option maxRecDepth 20000 in
theorem gX2_checkLinks_X2_note : GoodIn wsX2_checkLinks (wsV RX2 102 RX2 yX2_note wsX2_note) := goodIn_app (goodIn_of _ (by decide +kernel)) ggX2_checkLinks_X2_note
theorem dX2_checkLinks_0 : decode cX2_checkLinks 0 = .ok (.iconst 0, 1) := by decide +kernel
theorem dX2_checkLinks_1 : decode cX2_checkLinks 1 = .ok (.istore_n 2, 1) := by decide +kernel
theorem dX2_checkLinks_2 : decode cX2_checkLinks 2 = .ok (.iload_n 2, 1) := by decide +kernel
theorem dX2_checkLinks_3 : decode cX2_checkLinks 3 = .ok (.aload_n 0, 1) := by decide +kernel
theorem dX2_checkLinks_4 : decode cX2_checkLinks 4 = .ok (.getfield 27, 3) := by decide +kernel
theorem dX2_checkLinks_7 : decode cX2_checkLinks 7 = .ok (.getfield 79, 3) := by decide +kernel
theorem dX2_checkLinks_10 : decode cX2_checkLinks 10 = .ok (.invokevirtual 85, 3) := by decide +kernel
theorem dX2_checkLinks_13 : decode cX2_checkLinks 13 = .ok (.if_icmp .ge 72, 3) := by decide +kernel
theorem dX2_checkLinks_16 : decode cX2_checkLinks 16 = .ok (.aload_n 0, 1) := by decide +kernel
theorem dX2_checkLinks_17 : decode cX2_checkLinks 17 = .ok (.getfield 31, 3) := by decide +kernel
theorem dX2_checkLinks_20 : decode cX2_checkLinks 20 = .ok (.iconst 1, 1) := by decide +kernel
theorem dX2_checkLinks_21 : decode cX2_checkLinks 21 = .ok (.iload_n 2, 1) := by decide +kernel
theorem dX2_checkLinks_22 : decode cX2_checkLinks 22 = .ok (.invokevirtual 90, 3) := by decide +kernel
theorem dX2_checkLinks_25 : decode cX2_checkLinks 25 = .ok (.ifCond .eq 54, 3) := by decide +kernel
theorem dX2_checkLinks_28 : decode cX2_checkLinks 28 = .ok (.aload_n 0, 1) := by decide +kernel
theorem dX2_checkLinks_29 : decode cX2_checkLinks 29 = .ok (.getfield 31, 3) := by decide +kernel
theorem dX2_checkLinks_32 : decode cX2_checkLinks 32 = .ok (.iconst 0, 1) := by decide +kernel
theorem dX2_checkLinks_33 : decode cX2_checkLinks 33 = .ok (.aload_n 0, 1) := by decide +kernel
theorem dX2_checkLinks_34 : decode cX2_checkLinks 34 = .ok (.getfield 27, 3) := by decide +kernel
theorem dX2_checkLinks_37 : decode cX2_checkLinks 37 = .ok (.getfield 93, 3) := by decide +kernel
theorem dX2_checkLinks_40 : decode cX2_checkLinks 40 = .ok (.iload_n 2, 1) := by decide +kernel
theorem dX2_checkLinks_41 : decode cX2_checkLinks 41 = .ok (.invokevirtual 68, 3) := by decide +kernel
theorem dX2_checkLinks_44 : decode cX2_checkLinks 44 = .ok (.invokevirtual 96, 3) := by decide +kernel
theorem dX2_checkLinks_47 : decode cX2_checkLinks 47 = .ok (.ifCond .eq 32, 3) := by decide +kernel
theorem dX2_checkLinks_50 : decode cX2_checkLinks 50 = .ok (.aload_n 0, 1) := by decide +kernel
theorem dX2_checkLinks_51 : decode cX2_checkLinks 51 = .ok (.getfield 31, 3) := by decide +kernel
theorem dX2_checkLinks_54 : decode cX2_checkLinks 54 = .ok (.iconst 0, 1) := by decide +kernel
theorem dX2_checkLinks_55 : decode cX2_checkLinks 55 = .ok (.aload_n 0, 1) := by decide +kernel
theorem dX2_checkLinks_56 : decode cX2_checkLinks 56 = .ok (.getfield 27, 3) := by decide +kernel
theorem dX2_checkLinks_59 : decode cX2_checkLinks 59 = .ok (.getfield 99, 3) := by decide +kernel
theorem dX2_checkLinks_62 : decode cX2_checkLinks 62 = .ok (.iload_n 2, 1) := by decide +kernel
theorem dX2_checkLinks_63 : decode cX2_checkLinks 63 = .ok (.invokevirtual 68, 3) := by decide +kernel
theorem dX2_checkLinks_66 : decode cX2_checkLinks 66 = .ok (.invokevirtual 96, 3) := by decide +kernel
theorem dX2_checkLinks_69 : decode cX2_checkLinks 69 = .ok (.ifCond .ne 10, 3) := by decide +kernel
theorem dX2_checkLinks_72 : decode cX2_checkLinks 72 = .ok (.aload_n 0, 1) := by decide +kernel
theorem dX2_checkLinks_73 : decode cX2_checkLinks 73 = .ok (.iconst 1, 1) := by decide +kernel
theorem dX2_checkLinks_74 : decode cX2_checkLinks 74 = .ok (.iload_n 2, 1) := by decide +kernel
theorem dX2_checkLinks_75 : decode cX2_checkLinks 75 = .ok (.iload_n 1, 1) := by decide +kernel
theorem dX2_checkLinks_76 : decode cX2_checkLinks 76 = .ok (.invokevirtual 102, 3) := by decide +kernel
theorem dX2_checkLinks_79 : decode cX2_checkLinks 79 = .ok (.iinc 2 1, 3) := by decide +kernel
theorem dX2_checkLinks_82 : decode cX2_checkLinks 82 = .ok (.goto (-80), 3) := by decide +kernel
theorem dX2_checkLinks_85 : decode cX2_checkLinks 85 = .ok (.return_, 1) := by decide +kernel
set_option maxRecDepth 20000 in
theorem ggX2_checkClasses_X0_size : GoodIn wsX2_checkClasses wsX0_size := goodIn_r _ [8, 9, 60, 61, 62, 63] (by decide +kernel) (by decide +kernel)
set_option maxRecDepth 20000 in
theorem gX2_checkClasses_X0_size : GoodIn wsX2_checkClasses (wsV RX2 85 RX0 yX0_size wsX0_size) := goodIn_app (goodIn_of _ (by decide +kernel)) ggX2_checkClasses_X0_size
set_option maxRecDepth 20000 in
theorem ggX2_checkClasses_X7_isThere : GoodIn wsX2_checkClasses wsX7_isThere := goodIn_r _ [14, 15, 16, 17, 18, 19, 20, 21, 22, 23, 24, 64, 65, 66, 67, 68, 69, 70, 71, 72] (by decide +kernel) (by decide +kernel)
set_option maxRecDepth 20000 in
theorem gX2_checkClasses_X7_isThere : GoodIn wsX2_checkClasses (wsV RX2 96 RX7 yX7_isThere wsX7_isThere) := goodIn_app (goodIn_of _ (by decide +kernel)) ggX2_checkClasses_X7_isThere
set_option maxRecDepth 20000 in
theorem ggX2_checkClasses_X2_countLinks : GoodIn wsX2_checkClasses wsX2_countLinks := goodIn_r _ [29, 1, 30, 3, 31, 4, 5, 6, 7, 8, 9, 10, 11, 12, 13, 14, 15, 16, 17, 18, 19, 20, 21, 22, 23, 24, 32, 47, 48, 49, 50, 51, 52, 53, 54, 55, 56, 57, 58, 59, 60, 61, 62, 63, 64, 65, 66, 67, 68, 69, 70, 71, 72] (by decide +kernel) (by decide +kernel)
set_option maxRecDepth 20000 in
theorem gX2_checkClasses_X2_countLinks : GoodIn wsX2_checkClasses (wsV RX2 109 RX2 yX2_countLinks wsX2_countLinks) := goodIn_app (goodIn_of _ (by decide +kernel)) ggX2_checkClasses_X2_countLinks
set_option maxRecDepth 20000 in
theorem ggX2_checkClasses_X2_note : GoodIn wsX2_checkClasses wsX2_note := goodIn_r _ [36, 37, 32, 17, 18, 19, 20, 21, 38, 39, 40, 41, 47, 48, 49, 50, 51, 72] (by decide +kernel) (by decide +kernel)
set_option maxRecDepth 20000 in
theorem gX2_checkClasses_X2_note : GoodIn wsX2_checkClasses (wsV RX2 102 RX2 yX2_note wsX2_note) := goodIn_app (goodIn_of _ (by decide +kernel)) ggX2_checkClasses_X2_note
set_option maxRecDepth 20000 in
theorem ggX2_checkClasses_X7_isUnder : GoodIn wsX2_checkClasses wsX7_isUnder := goodIn_r _ [45, 46, 16, 17, 18, 19, 20, 21, 22, 23, 24, 64, 65, 66, 67, 68, 69, 70, 71, 72] (by decide +kernel) (by decide +kernel)
set_option maxRecDepth 20000 in
theorem gX2_checkClasses_X7_isUnder : GoodIn wsX2_checkClasses (wsV RX2 112 RX7 yX7_isUnder wsX7_isUnder) := goodIn_app (goodIn_of _ (by decide +kernel)) ggX2_checkClasses_X7_isUnder
theorem dX2_checkClasses_0 : decode cX2_checkClasses 0 = .ok (.iconst 0, 1) := by decide +kernel
theorem dX2_checkClasses_1 : decode cX2_checkClasses 1 = .ok (.istore_n 2, 1) := by decide +kernel
theorem dX2_checkClasses_2 : decode cX2_checkClasses 2 = .ok (.iload_n 2, 1) := by decide +kernel
theorem dX2_checkClasses_3 : decode cX2_checkClasses 3 = .ok (.aload_n 0, 1) := by decide +kernel
theorem dX2_checkClasses_4 : decode cX2_checkClasses 4 = .ok (.getfield 27, 3) := by decide +kernel
theorem dX2_checkClasses_7 : decode cX2_checkClasses 7 = .ok (.getfield 106, 3) := by decide +kernel
theorem dX2_checkClasses_10 : decode cX2_checkClasses 10 = .ok (.invokevirtual 85, 3) := by decide +kernel
theorem dX2_checkClasses_13 : decode cX2_checkClasses 13 = .ok (.if_icmp .ge 68, 3) := by decide +kernel
theorem dX2_checkClasses_16 : decode cX2_checkClasses 16 = .ok (.aload_n 0, 1) := by decide +kernel
theorem dX2_checkClasses_17 : decode cX2_checkClasses 17 = .ok (.getfield 31, 3) := by decide +kernel
theorem dX2_checkClasses_20 : decode cX2_checkClasses 20 = .ok (.iconst 0, 1) := by decide +kernel
theorem dX2_checkClasses_21 : decode cX2_checkClasses 21 = .ok (.iload_n 2, 1) := by decide +kernel
theorem dX2_checkClasses_22 : decode cX2_checkClasses 22 = .ok (.invokevirtual 96, 3) := by decide +kernel
theorem dX2_checkClasses_25 : decode cX2_checkClasses 25 = .ok (.ifCond .eq 19, 3) := by decide +kernel
theorem dX2_checkClasses_28 : decode cX2_checkClasses 28 = .ok (.aload_n 0, 1) := by decide +kernel
theorem dX2_checkClasses_29 : decode cX2_checkClasses 29 = .ok (.iload_n 2, 1) := by decide +kernel
theorem dX2_checkClasses_30 : decode cX2_checkClasses 30 = .ok (.invokevirtual 109, 3) := by decide +kernel
theorem dX2_checkClasses_33 : decode cX2_checkClasses 33 = .ok (.iconst 1, 1) := by decide +kernel
theorem dX2_checkClasses_34 : decode cX2_checkClasses 34 = .ok (.if_icmp .le 10, 3) := by decide +kernel
theorem dX2_checkClasses_37 : decode cX2_checkClasses 37 = .ok (.aload_n 0, 1) := by decide +kernel
theorem dX2_checkClasses_38 : decode cX2_checkClasses 38 = .ok (.iconst 2, 1) := by decide +kernel
theorem dX2_checkClasses_39 : decode cX2_checkClasses 39 = .ok (.iload_n 2, 1) := by decide +kernel
theorem dX2_checkClasses_40 : decode cX2_checkClasses 40 = .ok (.iload_n 1, 1) := by decide +kernel
theorem dX2_checkClasses_41 : decode cX2_checkClasses 41 = .ok (.invokevirtual 102, 3) := by decide +kernel
theorem dX2_checkClasses_44 : decode cX2_checkClasses 44 = .ok (.aload_n 0, 1) := by decide +kernel
theorem dX2_checkClasses_45 : decode cX2_checkClasses 45 = .ok (.getfield 31, 3) := by decide +kernel
theorem dX2_checkClasses_48 : decode cX2_checkClasses 48 = .ok (.iconst 0, 1) := by decide +kernel
theorem dX2_checkClasses_49 : decode cX2_checkClasses 49 = .ok (.iload_n 2, 1) := by decide +kernel
theorem dX2_checkClasses_50 : decode cX2_checkClasses 50 = .ok (.invokevirtual 96, 3) := by decide +kernel
theorem dX2_checkClasses_53 : decode cX2_checkClasses 53 = .ok (.ifCond .eq 22, 3) := by decide +kernel
theorem dX2_checkClasses_56 : decode cX2_checkClasses 56 = .ok (.aload_n 0, 1) := by decide +kernel
theorem dX2_checkClasses_57 : decode cX2_checkClasses 57 = .ok (.getfield 31, 3) := by decide +kernel
theorem dX2_checkClasses_60 : decode cX2_checkClasses 60 = .ok (.iload_n 2, 1) := by decide +kernel
theorem dX2_checkClasses_61 : decode cX2_checkClasses 61 = .ok (.iload_n 2, 1) := by decide +kernel
theorem dX2_checkClasses_62 : decode cX2_checkClasses 62 = .ok (.invokevirtual 112, 3) := by decide +kernel
theorem dX2_checkClasses_65 : decode cX2_checkClasses 65 = .ok (.ifCond .eq 10, 3) := by decide +kernel
theorem dX2_checkClasses_68 : decode cX2_checkClasses 68 = .ok (.aload_n 0, 1) := by decide +kernel
theorem dX2_checkClasses_69 : decode cX2_checkClasses 69 = .ok (.iconst 3, 1) := by decide +kernel
theorem dX2_checkClasses_70 : decode cX2_checkClasses 70 = .ok (.iload_n 2, 1) := by decide +kernel
theorem dX2_checkClasses_71 : decode cX2_checkClasses 71 = .ok (.iload_n 1, 1) := by decide +kernel
theorem dX2_checkClasses_72 : decode cX2_checkClasses 72 = .ok (.invokevirtual 102, 3) := by decide +kernel
theorem dX2_checkClasses_75 : decode cX2_checkClasses 75 = .ok (.iinc 2 1, 3) := by decide +kernel
theorem dX2_checkClasses_78 : decode cX2_checkClasses 78 = .ok (.goto (-76), 3) := by decide +kernel
theorem dX2_checkClasses_81 : decode cX2_checkClasses 81 = .ok (.return_, 1) := by decide +kernel
set_option maxRecDepth 20000 in
theorem ggX2_countLinks_X0_size : GoodIn wsX2_countLinks wsX0_size := goodIn_r _ [9, 10, 40, 41, 42, 43] (by decide +kernel) (by decide +kernel)
set_option maxRecDepth 20000 in
theorem gX2_countLinks_X0_size : GoodIn wsX2_countLinks (wsV RX2 85 RX0 yX0_size wsX0_size) := goodIn_app (goodIn_of _ (by decide +kernel)) ggX2_countLinks_X0_size
set_option maxRecDepth 20000 in
theorem ggX2_countLinks_X7_isThere : GoodIn wsX2_countLinks wsX7_isThere := goodIn_r _ [15, 16, 17, 18, 19, 20, 21, 22, 23, 24, 25, 44, 45, 46, 47, 48, 49, 50, 51, 52] (by decide +kernel) (by decide +kernel)
set_option maxRecDepth 20000 in
theorem gX2_countLinks_X7_isThere : GoodIn wsX2_countLinks (wsV RX2 96 RX7 yX7_isThere wsX7_isThere) := goodIn_app (goodIn_of _ (by decide +kernel)) ggX2_countLinks_X7_isThere
set_option maxRecDepth 20000 in
theorem ggX2_countLinks_X5_at : GoodIn wsX2_countLinks wsX5_at := goodIn_r _ [21, 22, 52] (by decide +kernel) (by decide +kernel)
set_option maxRecDepth 20000 in
theorem gX2_countLinks_X5_at : GoodIn wsX2_countLinks (wsV RX2 68 RX5 yX5_at wsX5_at) := goodIn_app (goodIn_of _ (by decide +kernel)) ggX2_countLinks_X5_at
theorem dX2_countLinks_0 : decode cX2_countLinks 0 = .ok (.iconst 0, 1) := by decide +kernel
theorem dX2_countLinks_1 : decode cX2_countLinks 1 = .ok (.istore_n 2, 1) := by decide +kernel
theorem dX2_countLinks_2 : decode cX2_countLinks 2 = .ok (.iconst 0, 1) := by decide +kernel
theorem dX2_countLinks_3 : decode cX2_countLinks 3 = .ok (.istore_n 3, 1) := by decide +kernel
theorem dX2_countLinks_4 : decode cX2_countLinks 4 = .ok (.iload_n 3, 1) := by decide +kernel
theorem dX2_countLinks_5 : decode cX2_countLinks 5 = .ok (.aload_n 0, 1) := by decide +kernel
theorem dX2_countLinks_6 : decode cX2_countLinks 6 = .ok (.getfield 27, 3) := by decide +kernel
theorem dX2_countLinks_9 : decode cX2_countLinks 9 = .ok (.getfield 79, 3) := by decide +kernel
theorem dX2_countLinks_12 : decode cX2_countLinks 12 = .ok (.invokevirtual 85, 3) := by decide +kernel
theorem dX2_countLinks_15 : decode cX2_countLinks 15 = .ok (.if_icmp .ge 39, 3) := by decide +kernel
theorem dX2_countLinks_18 : decode cX2_countLinks 18 = .ok (.aload_n 0, 1) := by decide +kernel
theorem dX2_countLinks_19 : decode cX2_countLinks 19 = .ok (.getfield 31, 3) := by decide +kernel
theorem dX2_countLinks_22 : decode cX2_countLinks 22 = .ok (.iconst 1, 1) := by decide +kernel
theorem dX2_countLinks_23 : decode cX2_countLinks 23 = .ok (.iload_n 3, 1) := by decide +kernel
theorem dX2_countLinks_24 : decode cX2_countLinks 24 = .ok (.invokevirtual 96, 3) := by decide +kernel
theorem dX2_countLinks_27 : decode cX2_countLinks 27 = .ok (.ifCond .eq 21, 3) := by decide +kernel
theorem dX2_countLinks_30 : decode cX2_countLinks 30 = .ok (.aload_n 0, 1) := by decide +kernel
theorem dX2_countLinks_31 : decode cX2_countLinks 31 = .ok (.getfield 27, 3) := by decide +kernel
theorem dX2_countLinks_34 : decode cX2_countLinks 34 = .ok (.getfield 93, 3) := by decide +kernel
theorem dX2_countLinks_37 : decode cX2_countLinks 37 = .ok (.iload_n 3, 1) := by decide +kernel
theorem dX2_countLinks_38 : decode cX2_countLinks 38 = .ok (.invokevirtual 68, 3) := by decide +kernel
theorem dX2_countLinks_41 : decode cX2_countLinks 41 = .ok (.iload_n 1, 1) := by decide +kernel
theorem dX2_countLinks_42 : decode cX2_countLinks 42 = .ok (.if_icmp .ne 6, 3) := by decide +kernel
theorem dX2_countLinks_45 : decode cX2_countLinks 45 = .ok (.iinc 2 1, 3) := by decide +kernel
theorem dX2_countLinks_48 : decode cX2_countLinks 48 = .ok (.iinc 3 1, 3) := by decide +kernel
theorem dX2_countLinks_51 : decode cX2_countLinks 51 = .ok (.goto (-47), 3) := by decide +kernel
theorem dX2_countLinks_54 : decode cX2_countLinks 54 = .ok (.iload_n 2, 1) := by decide +kernel
theorem dX2_countLinks_55 : decode cX2_countLinks 55 = .ok (.ireturn, 1) := by decide +kernel
set_option maxRecDepth 20000 in
theorem ggX2_checkMembers_X3_size : GoodIn wsX2_checkMembers wsX3_size := goodIn_r _ [8, 9, 10, 11, 12, 13, 14, 15, 143, 144, 145, 146, 147, 148, 149, 150, 151, 152, 153] (by decide +kernel) (by decide +kernel)
set_option maxRecDepth 20000 in
theorem gX2_checkMembers_X3_size : GoodIn wsX2_checkMembers (wsV RX2 119 RX3 yX3_size wsX3_size) := goodIn_app (goodIn_of _ (by decide +kernel)) ggX2_checkMembers_X3_size
set_option maxRecDepth 20000 in
theorem ggX2_checkMembers_X7_isThere : GoodIn wsX2_checkMembers wsX7_isThere := goodIn_r _ [20, 21, 22, 23, 24, 25, 26, 27, 28, 29, 30, 154, 155, 156, 157, 158, 159, 160, 161, 162] (by decide +kernel) (by decide +kernel)
set_option maxRecDepth 20000 in
theorem gX2_checkMembers_X7_isThere : GoodIn wsX2_checkMembers (wsV RX2 96 RX7 yX7_isThere wsX7_isThere) := goodIn_app (goodIn_of _ (by decide +kernel)) ggX2_checkMembers_X7_isThere
set_option maxRecDepth 20000 in
theorem ggX2_checkMembers_X2_checkMember : GoodIn wsX2_checkMembers wsX2_checkMember := goodIn_r _ [35, 3, 1, 2, 36, 37, 38, 7, 39, 40, 41, 23, 24, 25, 26, 27, 42, 43, 44, 19, 45, 46, 17, 18, 20, 21, 22, 28, 29, 30, 47, 48, 49, 50, 51, 52, 53, 54, 55, 34, 56, 57, 58, 59, 60, 61, 62, 63, 64, 65, 66, 67, 68, 69, 70, 71, 72, 73, 74, 75, 76, 77, 78, 79, 80, 81, 82, 83, 84, 85, 86, 87, 88, 89, 90, 91, 92, 93, 94, 95, 96, 97, 98, 99, 100, 101, 102, 103, 104, 105, 106, 107, 108, 130, 131, 132, 133, 134, 135, 136, 137, 138, 139, 140, 141, 142, 143, 144, 145, 146, 147, 148, 149, 162, 154, 155, 156, 157, 158, 159, 160, 161] (by decide +kernel) (by decide +kernel)
set_option maxRecDepth 20000 in
theorem gX2_checkMembers_X2_checkMember : GoodIn wsX2_checkMembers (wsV RX2 122 RX2 yX2_checkMember wsX2_checkMember) := goodIn_app (goodIn_of _ (by decide +kernel)) ggX2_checkMembers_X2_checkMember
set_option maxRecDepth 20000 in
theorem ggX2_checkMembers_X7_isConditionTrue : GoodIn wsX2_checkMembers wsX7_isConditionTrue := goodIn_r _ [112, 68, 113, 114, 115, 116, 117, 118, 119, 120, 121, 122, 123, 124, 125, 126, 13, 127, 128, 129, 23, 24, 25, 26, 27, 28, 29, 30, 154, 155, 156, 157, 158, 159, 160, 161, 135, 136, 137, 138, 139, 140, 141, 142, 143, 144, 145, 146, 147, 148, 149, 150, 151, 152, 153, 162] (by decide +kernel) (by decide +kernel)
set_option maxRecDepth 20000 in
theorem gX2_checkMembers_X7_isConditionTrue : GoodIn wsX2_checkMembers (wsV RX2 90 RX7 yX7_isConditionTrue wsX7_isConditionTrue) := goodIn_app (goodIn_of _ (by decide +kernel)) ggX2_checkMembers_X7_isConditionTrue
set_option maxRecDepth 20000 in
theorem ggX2_checkMembers_X2_note : GoodIn wsX2_checkMembers wsX2_note := goodIn_r _ [56, 57, 58, 23, 24, 25, 26, 27, 59, 60, 61, 62, 130, 131, 132, 133, 134, 162] (by decide +kernel) (by decide +kernel)
set_option maxRecDepth 20000 in
theorem gX2_checkMembers_X2_note : GoodIn wsX2_checkMembers (wsV RX2 102 RX2 yX2_note wsX2_note) := goodIn_app (goodIn_of _ (by decide +kernel)) ggX2_checkMembers_X2_note
theorem dX2_checkMembers_0 : decode cX2_checkMembers 0 = .ok (.iconst 0, 1) := by decide +kernel
theorem dX2_checkMembers_1 : decode cX2_checkMembers 1 = .ok (.istore_n 2, 1) := by decide +kernel
theorem dX2_checkMembers_2 : decode cX2_checkMembers 2 = .ok (.iload_n 2, 1) := by decide +kernel
theorem dX2_checkMembers_3 : decode cX2_checkMembers 3 = .ok (.aload_n 0, 1) := by decide +kernel
theorem dX2_checkMembers_4 : decode cX2_checkMembers 4 = .ok (.getfield 27, 3) := by decide +kernel
theorem dX2_checkMembers_7 : decode cX2_checkMembers 7 = .ok (.getfield 115, 3) := by decide +kernel
theorem dX2_checkMembers_10 : decode cX2_checkMembers 10 = .ok (.invokevirtual 119, 3) := by decide +kernel
theorem dX2_checkMembers_13 : decode cX2_checkMembers 13 = .ok (.if_icmp .ge 49, 3) := by decide +kernel
theorem dX2_checkMembers_16 : decode cX2_checkMembers 16 = .ok (.aload_n 0, 1) := by decide +kernel
theorem dX2_checkMembers_17 : decode cX2_checkMembers 17 = .ok (.getfield 31, 3) := by decide +kernel
theorem dX2_checkMembers_20 : decode cX2_checkMembers 20 = .ok (.iconst 2, 1) := by decide +kernel
theorem dX2_checkMembers_21 : decode cX2_checkMembers 21 = .ok (.iload_n 2, 1) := by decide +kernel
theorem dX2_checkMembers_22 : decode cX2_checkMembers 22 = .ok (.invokevirtual 96, 3) := by decide +kernel
theorem dX2_checkMembers_25 : decode cX2_checkMembers 25 = .ok (.ifCond .eq 12, 3) := by decide +kernel
theorem dX2_checkMembers_28 : decode cX2_checkMembers 28 = .ok (.aload_n 0, 1) := by decide +kernel
theorem dX2_checkMembers_29 : decode cX2_checkMembers 29 = .ok (.iload_n 2, 1) := by decide +kernel
theorem dX2_checkMembers_30 : decode cX2_checkMembers 30 = .ok (.iload_n 1, 1) := by decide +kernel
theorem dX2_checkMembers_31 : decode cX2_checkMembers 31 = .ok (.invokevirtual 122, 3) := by decide +kernel
theorem dX2_checkMembers_34 : decode cX2_checkMembers 34 = .ok (.goto 22, 3) := by decide +kernel
theorem dX2_checkMembers_37 : decode cX2_checkMembers 37 = .ok (.aload_n 0, 1) := by decide +kernel
theorem dX2_checkMembers_38 : decode cX2_checkMembers 38 = .ok (.getfield 31, 3) := by decide +kernel
theorem dX2_checkMembers_41 : decode cX2_checkMembers 41 = .ok (.iconst 2, 1) := by decide +kernel
theorem dX2_checkMembers_42 : decode cX2_checkMembers 42 = .ok (.iload_n 2, 1) := by decide +kernel
theorem dX2_checkMembers_43 : decode cX2_checkMembers 43 = .ok (.invokevirtual 90, 3) := by decide +kernel
theorem dX2_checkMembers_46 : decode cX2_checkMembers 46 = .ok (.ifCond .eq 10, 3) := by decide +kernel
theorem dX2_checkMembers_49 : decode cX2_checkMembers 49 = .ok (.aload_n 0, 1) := by decide +kernel
theorem dX2_checkMembers_50 : decode cX2_checkMembers 50 = .ok (.iconst 4, 1) := by decide +kernel
theorem dX2_checkMembers_51 : decode cX2_checkMembers 51 = .ok (.iload_n 2, 1) := by decide +kernel
theorem dX2_checkMembers_52 : decode cX2_checkMembers 52 = .ok (.iload_n 1, 1) := by decide +kernel
theorem dX2_checkMembers_53 : decode cX2_checkMembers 53 = .ok (.invokevirtual 102, 3) := by decide +kernel
theorem dX2_checkMembers_56 : decode cX2_checkMembers 56 = .ok (.iinc 2 1, 3) := by decide +kernel
theorem dX2_checkMembers_59 : decode cX2_checkMembers 59 = .ok (.goto (-57), 3) := by decide +kernel
theorem dX2_checkMembers_62 : decode cX2_checkMembers 62 = .ok (.return_, 1) := by decide +kernel
set_option maxRecDepth 20000 in
theorem ggX2_checkMember_X3_type : GoodIn wsX2_checkMember wsX3_type := goodIn_r _ [8, 9, 10, 11, 12, 13, 14, 15, 106, 107, 108, 109, 110, 111, 112, 113] (by decide +kernel) (by decide +kernel)
set_option maxRecDepth 20000 in
theorem gX2_checkMember_X3_type : GoodIn wsX2_checkMember (wsV RX2 125 RX3 yX3_type wsX3_type) := goodIn_app (goodIn_of _ (by decide +kernel)) ggX2_checkMember_X3_type
set_option maxRecDepth 20000 in
theorem ggX2_checkMember_X7_isMissing : GoodIn wsX2_checkMember wsX7_isMissing := goodIn_r _ [20, 21, 22, 23, 19, 24, 25, 26, 11, 12, 13, 14, 15, 27, 28, 29, 114, 115, 116, 117, 118, 119, 120, 121, 113] (by decide +kernel) (by decide +kernel)
set_option maxRecDepth 20000 in
theorem gX2_checkMember_X7_isMissing : GoodIn wsX2_checkMember (wsV RX2 128 RX7 yX7_isMissing wsX7_isMissing) := goodIn_app (goodIn_of _ (by decide +kernel)) ggX2_checkMember_X7_isMissing
set_option maxRecDepth 20000 in
theorem ggX2_checkMember_X3_parameter : GoodIn wsX2_checkMember wsX3_parameter := goodIn_r _ [33, 34, 35, 10, 11, 12, 13, 14, 15, 106, 107, 108, 109, 110, 111, 112, 113] (by decide +kernel) (by decide +kernel)
set_option maxRecDepth 20000 in
theorem gX2_checkMember_X3_parameter : GoodIn wsX2_checkMember (wsV RX2 132 RX3 yX3_parameter wsX3_parameter) := goodIn_app (goodIn_of _ (by decide +kernel)) ggX2_checkMember_X3_parameter
set_option maxRecDepth 20000 in
theorem ggX2_checkMember_X2_note : GoodIn wsX2_checkMember wsX2_note := goodIn_r _ [40, 41, 42, 11, 12, 13, 14, 15, 43, 44, 45, 46, 93, 94, 95, 96, 97, 113] (by decide +kernel) (by decide +kernel)
set_option maxRecDepth 20000 in
theorem gX2_checkMember_X2_note : GoodIn wsX2_checkMember (wsV RX2 102 RX2 yX2_note wsX2_note) := goodIn_app (goodIn_of _ (by decide +kernel)) ggX2_checkMember_X2_note
set_option maxRecDepth 20000 in
theorem ggX2_checkMember_X7_isRepeated : GoodIn wsX2_checkMember wsX7_isRepeated := goodIn_r _ [50, 51, 52, 53, 54, 55, 56, 7, 57, 58, 10, 11, 12, 13, 14, 15, 59, 60, 61, 62, 63, 64, 65, 66, 67, 68, 69, 70, 19, 71, 26, 114, 115, 116, 117, 118, 119, 120, 121, 98, 99, 100, 101, 102, 103, 104, 105, 106, 107, 108, 109, 110, 111, 112, 113] (by decide +kernel) (by decide +kernel)
set_option maxRecDepth 20000 in
theorem gX2_checkMember_X7_isRepeated : GoodIn wsX2_checkMember (wsV RX2 136 RX7 yX7_isRepeated wsX7_isRepeated) := goodIn_app (goodIn_of _ (by decide +kernel)) ggX2_checkMember_X7_isRepeated
set_option maxRecDepth 20000 in
theorem ggX2_checkMember_X3_sort : GoodIn wsX2_checkMember wsX3_sort := goodIn_r _ [67, 68, 10, 11, 12, 13, 14, 15, 106, 107, 108, 109, 110, 111, 112, 113] (by decide +kernel) (by decide +kernel)
set_option maxRecDepth 20000 in
theorem gX2_checkMember_X3_sort : GoodIn wsX2_checkMember (wsV RX2 139 RX3 yX3_sort wsX3_sort) := goodIn_app (goodIn_of _ (by decide +kernel)) ggX2_checkMember_X3_sort
set_option maxRecDepth 20000 in
theorem ggX2_checkMember_X2_isUnlikeInherited : GoodIn wsX2_checkMember wsX2_isUnlikeInherited := goodIn_r _ [76, 1, 2, 3, 77, 55, 56, 7, 57, 58, 10, 11, 12, 13, 14, 15, 78, 79, 80, 19, 81, 82, 26, 83, 60, 61, 62, 63, 84, 85, 86, 87, 51, 69, 70, 71, 30, 31, 32, 33, 34, 35, 4, 5, 6, 8, 9, 88, 89, 90, 91, 92, 27, 28, 29, 93, 94, 95, 96, 97, 98, 99, 100, 101, 102, 103, 104, 105, 106, 107, 108, 109, 110, 111, 112, 113, 114, 115, 116, 117, 118, 119, 120, 121] (by decide +kernel) (by decide +kernel)
set_option maxRecDepth 20000 in
theorem gX2_checkMember_X2_isUnlikeInherited : GoodIn wsX2_checkMember (wsV RX2 142 RX2 yX2_isUnlikeInherited wsX2_isUnlikeInherited) := goodIn_app (goodIn_of _ (by decide +kernel)) ggX2_checkMember_X2_isUnlikeInherited
theorem dX2_checkMember_0 : decode cX2_checkMember 0 = .ok (.aload_n 0, 1) := by decide +kernel
theorem dX2_checkMember_1 : decode cX2_checkMember 1 = .ok (.getfield 31, 3) := by decide +kernel
theorem dX2_checkMember_4 : decode cX2_checkMember 4 = .ok (.aload_n 0, 1) := by decide +kernel
theorem dX2_checkMember_5 : decode cX2_checkMember 5 = .ok (.getfield 27, 3) := by decide +kernel
theorem dX2_checkMember_8 : decode cX2_checkMember 8 = .ok (.getfield 115, 3) := by decide +kernel
theorem dX2_checkMember_11 : decode cX2_checkMember 11 = .ok (.iload_n 1, 1) := by decide +kernel
theorem dX2_checkMember_12 : decode cX2_checkMember 12 = .ok (.invokevirtual 125, 3) := by decide +kernel
theorem dX2_checkMember_15 : decode cX2_checkMember 15 = .ok (.invokevirtual 128, 3) := by decide +kernel
theorem dX2_checkMember_18 : decode cX2_checkMember 18 = .ok (.ifCond .ne 47, 3) := by decide +kernel
theorem dX2_checkMember_21 : decode cX2_checkMember 21 = .ok (.aload_n 0, 1) := by decide +kernel
theorem dX2_checkMember_22 : decode cX2_checkMember 22 = .ok (.getfield 31, 3) := by decide +kernel
theorem dX2_checkMember_25 : decode cX2_checkMember 25 = .ok (.aload_n 0, 1) := by decide +kernel
theorem dX2_checkMember_26 : decode cX2_checkMember 26 = .ok (.getfield 27, 3) := by decide +kernel
theorem dX2_checkMember_29 : decode cX2_checkMember 29 = .ok (.getfield 115, 3) := by decide +kernel
theorem dX2_checkMember_32 : decode cX2_checkMember 32 = .ok (.iload_n 1, 1) := by decide +kernel
theorem dX2_checkMember_33 : decode cX2_checkMember 33 = .ok (.iconst 0, 1) := by decide +kernel
theorem dX2_checkMember_34 : decode cX2_checkMember 34 = .ok (.invokevirtual 132, 3) := by decide +kernel
theorem dX2_checkMember_37 : decode cX2_checkMember 37 = .ok (.invokevirtual 128, 3) := by decide +kernel
theorem dX2_checkMember_40 : decode cX2_checkMember 40 = .ok (.ifCond .ne 25, 3) := by decide +kernel
theorem dX2_checkMember_43 : decode cX2_checkMember 43 = .ok (.aload_n 0, 1) := by decide +kernel
theorem dX2_checkMember_44 : decode cX2_checkMember 44 = .ok (.getfield 31, 3) := by decide +kernel
theorem dX2_checkMember_47 : decode cX2_checkMember 47 = .ok (.aload_n 0, 1) := by decide +kernel
theorem dX2_checkMember_48 : decode cX2_checkMember 48 = .ok (.getfield 27, 3) := by decide +kernel
theorem dX2_checkMember_51 : decode cX2_checkMember 51 = .ok (.getfield 115, 3) := by decide +kernel
theorem dX2_checkMember_54 : decode cX2_checkMember 54 = .ok (.iload_n 1, 1) := by decide +kernel
theorem dX2_checkMember_55 : decode cX2_checkMember 55 = .ok (.iconst 1, 1) := by decide +kernel
theorem dX2_checkMember_56 : decode cX2_checkMember 56 = .ok (.invokevirtual 132, 3) := by decide +kernel
theorem dX2_checkMember_59 : decode cX2_checkMember 59 = .ok (.invokevirtual 128, 3) := by decide +kernel
theorem dX2_checkMember_62 : decode cX2_checkMember 62 = .ok (.ifCond .eq 10, 3) := by decide +kernel
theorem dX2_checkMember_65 : decode cX2_checkMember 65 = .ok (.aload_n 0, 1) := by decide +kernel
theorem dX2_checkMember_66 : decode cX2_checkMember 66 = .ok (.iconst 5, 1) := by decide +kernel
theorem dX2_checkMember_67 : decode cX2_checkMember 67 = .ok (.iload_n 1, 1) := by decide +kernel
theorem dX2_checkMember_68 : decode cX2_checkMember 68 = .ok (.iload_n 2, 1) := by decide +kernel
theorem dX2_checkMember_69 : decode cX2_checkMember 69 = .ok (.invokevirtual 102, 3) := by decide +kernel
theorem dX2_checkMember_72 : decode cX2_checkMember 72 = .ok (.aload_n 0, 1) := by decide +kernel
theorem dX2_checkMember_73 : decode cX2_checkMember 73 = .ok (.getfield 31, 3) := by decide +kernel
theorem dX2_checkMember_76 : decode cX2_checkMember 76 = .ok (.iload_n 1, 1) := by decide +kernel
theorem dX2_checkMember_77 : decode cX2_checkMember 77 = .ok (.invokevirtual 136, 3) := by decide +kernel
theorem dX2_checkMember_80 : decode cX2_checkMember 80 = .ok (.ifCond .eq 11, 3) := by decide +kernel
theorem dX2_checkMember_83 : decode cX2_checkMember 83 = .ok (.aload_n 0, 1) := by decide +kernel
theorem dX2_checkMember_84 : decode cX2_checkMember 84 = .ok (.bipush 6, 2) := by decide +kernel
theorem dX2_checkMember_86 : decode cX2_checkMember 86 = .ok (.iload_n 1, 1) := by decide +kernel
theorem dX2_checkMember_87 : decode cX2_checkMember 87 = .ok (.iload_n 2, 1) := by decide +kernel
theorem dX2_checkMember_88 : decode cX2_checkMember 88 = .ok (.invokevirtual 102, 3) := by decide +kernel
theorem dX2_checkMember_91 : decode cX2_checkMember 91 = .ok (.aload_n 0, 1) := by decide +kernel
theorem dX2_checkMember_92 : decode cX2_checkMember 92 = .ok (.getfield 27, 3) := by decide +kernel
theorem dX2_checkMember_95 : decode cX2_checkMember 95 = .ok (.getfield 115, 3) := by decide +kernel
theorem dX2_checkMember_98 : decode cX2_checkMember 98 = .ok (.iload_n 1, 1) := by decide +kernel
theorem dX2_checkMember_99 : decode cX2_checkMember 99 = .ok (.invokevirtual 139, 3) := by decide +kernel
theorem dX2_checkMember_102 : decode cX2_checkMember 102 = .ok (.iconst 1, 1) := by decide +kernel
theorem dX2_checkMember_103 : decode cX2_checkMember 103 = .ok (.if_icmp .ne 19, 3) := by decide +kernel
theorem dX2_checkMember_106 : decode cX2_checkMember 106 = .ok (.aload_n 0, 1) := by decide +kernel
theorem dX2_checkMember_107 : decode cX2_checkMember 107 = .ok (.iload_n 1, 1) := by decide +kernel
theorem dX2_checkMember_108 : decode cX2_checkMember 108 = .ok (.invokevirtual 142, 3) := by decide +kernel
theorem dX2_checkMember_111 : decode cX2_checkMember 111 = .ok (.ifCond .eq 11, 3) := by decide +kernel
theorem dX2_checkMember_114 : decode cX2_checkMember 114 = .ok (.aload_n 0, 1) := by decide +kernel
theorem dX2_checkMember_115 : decode cX2_checkMember 115 = .ok (.bipush 7, 2) := by decide +kernel
theorem dX2_checkMember_117 : decode cX2_checkMember 117 = .ok (.iload_n 1, 1) := by decide +kernel
theorem dX2_checkMember_118 : decode cX2_checkMember 118 = .ok (.iload_n 2, 1) := by decide +kernel
theorem dX2_checkMember_119 : decode cX2_checkMember 119 = .ok (.invokevirtual 102, 3) := by decide +kernel
theorem dX2_checkMember_122 : decode cX2_checkMember 122 = .ok (.return_, 1) := by decide +kernel
set_option maxRecDepth 20000 in
theorem ggX2_isUnlikeInherited_X3_owner : GoodIn wsX2_isUnlikeInherited wsX3_owner := goodIn_r _ [8, 9, 10, 11, 12, 13, 14, 15, 68, 69, 70, 71, 72, 73, 74, 75] (by decide +kernel) (by decide +kernel)
set_option maxRecDepth 20000 in
theorem gX2_isUnlikeInherited_X3_owner : GoodIn wsX2_isUnlikeInherited (wsV RX2 145 RX3 yX3_owner wsX3_owner) := goodIn_app (goodIn_of _ (by decide +kernel)) ggX2_isUnlikeInherited_X3_owner
set_option maxRecDepth 20000 in
theorem ggX2_isUnlikeInherited_X7_parentOf : GoodIn wsX2_isUnlikeInherited wsX7_parentOf := goodIn_r _ [20, 21, 22, 11, 12, 13, 14, 15, 76, 77, 78, 79, 80, 81, 82, 83, 75] (by decide +kernel) (by decide +kernel)
set_option maxRecDepth 20000 in
theorem gX2_isUnlikeInherited_X7_parentOf : GoodIn wsX2_isUnlikeInherited (wsV RX2 148 RX7 yX7_parentOf wsX7_parentOf) := goodIn_app (goodIn_of _ (by decide +kernel)) ggX2_isUnlikeInherited_X7_parentOf
set_option maxRecDepth 20000 in
theorem ggX2_isUnlikeInherited_X3_name : GoodIn wsX2_isUnlikeInherited wsX3_name := goodIn_r _ [26, 27, 10, 11, 12, 13, 14, 15, 68, 69, 70, 71, 72, 73, 74, 75] (by decide +kernel) (by decide +kernel)
set_option maxRecDepth 20000 in
theorem gX2_isUnlikeInherited_X3_name : GoodIn wsX2_isUnlikeInherited (wsV RX2 151 RX3 yX3_name wsX3_name) := goodIn_app (goodIn_of _ (by decide +kernel)) ggX2_isUnlikeInherited_X3_name
set_option maxRecDepth 20000 in
theorem ggX2_isUnlikeInherited_X7_lookUp : GoodIn wsX2_isUnlikeInherited wsX7_lookUp := goodIn_r _ [31, 32, 21, 33, 34, 19, 35, 22, 11, 12, 13, 14, 15, 76, 77, 78, 79, 80, 81, 82, 83, 75] (by decide +kernel) (by decide +kernel)
set_option maxRecDepth 20000 in
theorem gX2_isUnlikeInherited_X7_lookUp : GoodIn wsX2_isUnlikeInherited (wsV RX2 154 RX7 yX7_lookUp wsX7_lookUp) := goodIn_app (goodIn_of _ (by decide +kernel)) ggX2_isUnlikeInherited_X7_lookUp
set_option maxRecDepth 20000 in
theorem ggX2_isUnlikeInherited_X3_parameter : GoodIn wsX2_isUnlikeInherited wsX3_parameter := goodIn_r _ [39, 40, 41, 10, 11, 12, 13, 14, 15, 68, 69, 70, 71, 72, 73, 74, 75] (by decide +kernel) (by decide +kernel)
set_option maxRecDepth 20000 in
theorem gX2_isUnlikeInherited_X3_parameter : GoodIn wsX2_isUnlikeInherited (wsV RX2 132 RX3 yX3_parameter wsX3_parameter) := goodIn_app (goodIn_of _ (by decide +kernel)) ggX2_isUnlikeInherited_X3_parameter
set_option maxRecDepth 20000 in
theorem ggX2_isUnlikeInherited_X3_type : GoodIn wsX2_isUnlikeInherited wsX3_type := goodIn_r _ [45, 46, 10, 11, 12, 13, 14, 15, 68, 69, 70, 71, 72, 73, 74, 75] (by decide +kernel) (by decide +kernel)
set_option maxRecDepth 20000 in
theorem gX2_isUnlikeInherited_X3_type : GoodIn wsX2_isUnlikeInherited (wsV RX2 125 RX3 yX3_type wsX3_type) := goodIn_app (goodIn_of _ (by decide +kernel)) ggX2_isUnlikeInherited_X3_type
set_option maxRecDepth 20000 in
theorem ggX2_isUnlikeInherited_X7_fits : GoodIn wsX2_isUnlikeInherited wsX7_fits := goodIn_r _ [50, 51, 22, 11, 12, 13, 14, 15, 52, 53, 54, 76, 77, 78, 79, 80, 81, 82, 83, 75] (by decide +kernel) (by decide +kernel)
set_option maxRecDepth 20000 in
theorem gX2_isUnlikeInherited_X7_fits : GoodIn wsX2_isUnlikeInherited (wsV RX2 158 RX7 yX7_fits wsX7_fits) := goodIn_app (goodIn_of _ (by decide +kernel)) ggX2_isUnlikeInherited_X7_fits
theorem dX2_isUnlikeInherited_0 : decode cX2_isUnlikeInherited 0 = .ok (.aload_n 0, 1) := by decide +kernel
theorem dX2_isUnlikeInherited_1 : decode cX2_isUnlikeInherited 1 = .ok (.getfield 31, 3) := by decide +kernel
theorem dX2_isUnlikeInherited_4 : decode cX2_isUnlikeInherited 4 = .ok (.aload_n 0, 1) := by decide +kernel
theorem dX2_isUnlikeInherited_5 : decode cX2_isUnlikeInherited 5 = .ok (.getfield 27, 3) := by decide +kernel
theorem dX2_isUnlikeInherited_8 : decode cX2_isUnlikeInherited 8 = .ok (.getfield 115, 3) := by decide +kernel
theorem dX2_isUnlikeInherited_11 : decode cX2_isUnlikeInherited 11 = .ok (.iload_n 1, 1) := by decide +kernel
theorem dX2_isUnlikeInherited_12 : decode cX2_isUnlikeInherited 12 = .ok (.invokevirtual 145, 3) := by decide +kernel
theorem dX2_isUnlikeInherited_15 : decode cX2_isUnlikeInherited 15 = .ok (.invokevirtual 148, 3) := by decide +kernel
theorem dX2_isUnlikeInherited_18 : decode cX2_isUnlikeInherited 18 = .ok (.istore_n 2, 1) := by decide +kernel
theorem dX2_isUnlikeInherited_19 : decode cX2_isUnlikeInherited 19 = .ok (.iload_n 2, 1) := by decide +kernel
theorem dX2_isUnlikeInherited_20 : decode cX2_isUnlikeInherited 20 = .ok (.iconst (-1), 1) := by decide +kernel
theorem dX2_isUnlikeInherited_21 : decode cX2_isUnlikeInherited 21 = .ok (.if_icmp .ne 5, 3) := by decide +kernel
theorem dX2_isUnlikeInherited_24 : decode cX2_isUnlikeInherited 24 = .ok (.iconst 0, 1) := by decide +kernel
theorem dX2_isUnlikeInherited_25 : decode cX2_isUnlikeInherited 25 = .ok (.ireturn, 1) := by decide +kernel
theorem dX2_isUnlikeInherited_26 : decode cX2_isUnlikeInherited 26 = .ok (.aload_n 0, 1) := by decide +kernel
theorem dX2_isUnlikeInherited_27 : decode cX2_isUnlikeInherited 27 = .ok (.getfield 31, 3) := by decide +kernel
theorem dX2_isUnlikeInherited_30 : decode cX2_isUnlikeInherited 30 = .ok (.iload_n 2, 1) := by decide +kernel
theorem dX2_isUnlikeInherited_31 : decode cX2_isUnlikeInherited 31 = .ok (.aload_n 0, 1) := by decide +kernel
theorem dX2_isUnlikeInherited_32 : decode cX2_isUnlikeInherited 32 = .ok (.getfield 27, 3) := by decide +kernel
theorem dX2_isUnlikeInherited_35 : decode cX2_isUnlikeInherited 35 = .ok (.getfield 115, 3) := by decide +kernel
theorem dX2_isUnlikeInherited_38 : decode cX2_isUnlikeInherited 38 = .ok (.iload_n 1, 1) := by decide +kernel
theorem dX2_isUnlikeInherited_39 : decode cX2_isUnlikeInherited 39 = .ok (.invokevirtual 151, 3) := by decide +kernel
theorem dX2_isUnlikeInherited_42 : decode cX2_isUnlikeInherited 42 = .ok (.iconst 1, 1) := by decide +kernel
theorem dX2_isUnlikeInherited_43 : decode cX2_isUnlikeInherited 43 = .ok (.invokevirtual 154, 3) := by decide +kernel
theorem dX2_isUnlikeInherited_46 : decode cX2_isUnlikeInherited 46 = .ok (.istore_n 3, 1) := by decide +kernel
theorem dX2_isUnlikeInherited_47 : decode cX2_isUnlikeInherited 47 = .ok (.iload_n 3, 1) := by decide +kernel
theorem dX2_isUnlikeInherited_48 : decode cX2_isUnlikeInherited 48 = .ok (.iconst (-1), 1) := by decide +kernel
theorem dX2_isUnlikeInherited_49 : decode cX2_isUnlikeInherited 49 = .ok (.if_icmp .eq 8, 3) := by decide +kernel
theorem dX2_isUnlikeInherited_52 : decode cX2_isUnlikeInherited 52 = .ok (.iload_n 3, 1) := by decide +kernel
theorem dX2_isUnlikeInherited_53 : decode cX2_isUnlikeInherited 53 = .ok (.iload_n 1, 1) := by decide +kernel
theorem dX2_isUnlikeInherited_54 : decode cX2_isUnlikeInherited 54 = .ok (.if_icmp .ne 5, 3) := by decide +kernel
theorem dX2_isUnlikeInherited_57 : decode cX2_isUnlikeInherited 57 = .ok (.iconst 0, 1) := by decide +kernel
theorem dX2_isUnlikeInherited_58 : decode cX2_isUnlikeInherited 58 = .ok (.ireturn, 1) := by decide +kernel
theorem dX2_isUnlikeInherited_59 : decode cX2_isUnlikeInherited 59 = .ok (.aload_n 0, 1) := by decide +kernel
theorem dX2_isUnlikeInherited_60 : decode cX2_isUnlikeInherited 60 = .ok (.getfield 27, 3) := by decide +kernel
theorem dX2_isUnlikeInherited_63 : decode cX2_isUnlikeInherited 63 = .ok (.getfield 115, 3) := by decide +kernel
theorem dX2_isUnlikeInherited_66 : decode cX2_isUnlikeInherited 66 = .ok (.iload_n 1, 1) := by decide +kernel
theorem dX2_isUnlikeInherited_67 : decode cX2_isUnlikeInherited 67 = .ok (.iconst 0, 1) := by decide +kernel
theorem dX2_isUnlikeInherited_68 : decode cX2_isUnlikeInherited 68 = .ok (.invokevirtual 132, 3) := by decide +kernel
theorem dX2_isUnlikeInherited_71 : decode cX2_isUnlikeInherited 71 = .ok (.aload_n 0, 1) := by decide +kernel
theorem dX2_isUnlikeInherited_72 : decode cX2_isUnlikeInherited 72 = .ok (.getfield 27, 3) := by decide +kernel
theorem dX2_isUnlikeInherited_75 : decode cX2_isUnlikeInherited 75 = .ok (.getfield 115, 3) := by decide +kernel
theorem dX2_isUnlikeInherited_78 : decode cX2_isUnlikeInherited 78 = .ok (.iload_n 3, 1) := by decide +kernel
theorem dX2_isUnlikeInherited_79 : decode cX2_isUnlikeInherited 79 = .ok (.iconst 0, 1) := by decide +kernel
theorem dX2_isUnlikeInherited_80 : decode cX2_isUnlikeInherited 80 = .ok (.invokevirtual 132, 3) := by decide +kernel
theorem dX2_isUnlikeInherited_83 : decode cX2_isUnlikeInherited 83 = .ok (.if_icmp .ne 62, 3) := by decide +kernel
theorem dX2_isUnlikeInherited_86 : decode cX2_isUnlikeInherited 86 = .ok (.aload_n 0, 1) := by decide +kernel
theorem dX2_isUnlikeInherited_87 : decode cX2_isUnlikeInherited 87 = .ok (.getfield 27, 3) := by decide +kernel
theorem dX2_isUnlikeInherited_90 : decode cX2_isUnlikeInherited 90 = .ok (.getfield 115, 3) := by decide +kernel
theorem dX2_isUnlikeInherited_93 : decode cX2_isUnlikeInherited 93 = .ok (.iload_n 1, 1) := by decide +kernel
theorem dX2_isUnlikeInherited_94 : decode cX2_isUnlikeInherited 94 = .ok (.iconst 1, 1) := by decide +kernel
theorem dX2_isUnlikeInherited_95 : decode cX2_isUnlikeInherited 95 = .ok (.invokevirtual 132, 3) := by decide +kernel
theorem dX2_isUnlikeInherited_98 : decode cX2_isUnlikeInherited 98 = .ok (.aload_n 0, 1) := by decide +kernel
theorem dX2_isUnlikeInherited_99 : decode cX2_isUnlikeInherited 99 = .ok (.getfield 27, 3) := by decide +kernel
theorem dX2_isUnlikeInherited_102 : decode cX2_isUnlikeInherited 102 = .ok (.getfield 115, 3) := by decide +kernel
theorem dX2_isUnlikeInherited_105 : decode cX2_isUnlikeInherited 105 = .ok (.iload_n 3, 1) := by decide +kernel
theorem dX2_isUnlikeInherited_106 : decode cX2_isUnlikeInherited 106 = .ok (.iconst 1, 1) := by decide +kernel
theorem dX2_isUnlikeInherited_107 : decode cX2_isUnlikeInherited 107 = .ok (.invokevirtual 132, 3) := by decide +kernel
theorem dX2_isUnlikeInherited_110 : decode cX2_isUnlikeInherited 110 = .ok (.if_icmp .ne 35, 3) := by decide +kernel
theorem dX2_isUnlikeInherited_113 : decode cX2_isUnlikeInherited 113 = .ok (.aload_n 0, 1) := by decide +kernel
theorem dX2_isUnlikeInherited_114 : decode cX2_isUnlikeInherited 114 = .ok (.getfield 31, 3) := by decide +kernel
theorem dX2_isUnlikeInherited_117 : decode cX2_isUnlikeInherited 117 = .ok (.aload_n 0, 1) := by decide +kernel
theorem dX2_isUnlikeInherited_118 : decode cX2_isUnlikeInherited 118 = .ok (.getfield 27, 3) := by decide +kernel
theorem dX2_isUnlikeInherited_121 : decode cX2_isUnlikeInherited 121 = .ok (.getfield 115, 3) := by decide +kernel
theorem dX2_isUnlikeInherited_124 : decode cX2_isUnlikeInherited 124 = .ok (.iload_n 1, 1) := by decide +kernel
theorem dX2_isUnlikeInherited_125 : decode cX2_isUnlikeInherited 125 = .ok (.invokevirtual 125, 3) := by decide +kernel
theorem dX2_isUnlikeInherited_128 : decode cX2_isUnlikeInherited 128 = .ok (.aload_n 0, 1) := by decide +kernel
theorem dX2_isUnlikeInherited_129 : decode cX2_isUnlikeInherited 129 = .ok (.getfield 27, 3) := by decide +kernel
theorem dX2_isUnlikeInherited_132 : decode cX2_isUnlikeInherited 132 = .ok (.getfield 115, 3) := by decide +kernel
theorem dX2_isUnlikeInherited_135 : decode cX2_isUnlikeInherited 135 = .ok (.iload_n 3, 1) := by decide +kernel
theorem dX2_isUnlikeInherited_136 : decode cX2_isUnlikeInherited 136 = .ok (.invokevirtual 125, 3) := by decide +kernel
theorem dX2_isUnlikeInherited_139 : decode cX2_isUnlikeInherited 139 = .ok (.invokevirtual 158, 3) := by decide +kernel
theorem dX2_isUnlikeInherited_142 : decode cX2_isUnlikeInherited 142 = .ok (.ifCond .ne 7, 3) := by decide +kernel
theorem dX2_isUnlikeInherited_145 : decode cX2_isUnlikeInherited 145 = .ok (.iconst 1, 1) := by decide +kernel
theorem dX2_isUnlikeInherited_146 : decode cX2_isUnlikeInherited 146 = .ok (.goto 4, 3) := by decide +kernel
theorem dX2_isUnlikeInherited_149 : decode cX2_isUnlikeInherited 149 = .ok (.iconst 0, 1) := by decide +kernel
theorem dX2_isUnlikeInherited_150 : decode cX2_isUnlikeInherited 150 = .ok (.ireturn, 1) := by decide +kernel
set_option maxRecDepth 20000 in
theorem ggX2_checkExpressions_X1_size : GoodIn wsX2_checkExpressions wsX1_size := goodIn_r _ [8, 9, 46, 47, 48, 49, 50, 51, 52] (by decide +kernel) (by decide +kernel)
set_option maxRecDepth 20000 in
theorem gX2_checkExpressions_X1_size : GoodIn wsX2_checkExpressions (wsV RX2 165 RX1 yX1_size wsX1_size) := goodIn_app (goodIn_of _ (by decide +kernel)) ggX2_checkExpressions_X1_size
set_option maxRecDepth 20000 in
theorem ggX2_checkExpressions_X7_fault : GoodIn wsX2_checkExpressions wsX7_fault := goodIn_r _ [14, 15, 16, 17, 18, 19, 20, 21, 53, 54, 55, 56, 57, 58, 59, 60, 61] (by decide +kernel) (by decide +kernel)
set_option maxRecDepth 20000 in
theorem gX2_checkExpressions_X7_fault : GoodIn wsX2_checkExpressions (wsV RX2 168 RX7 yX7_fault wsX7_fault) := goodIn_app (goodIn_of _ (by decide +kernel)) ggX2_checkExpressions_X7_fault
set_option maxRecDepth 20000 in
theorem ggX2_checkExpressions_X2_note : GoodIn wsX2_checkExpressions wsX2_note := goodIn_r _ [26, 27, 28, 17, 18, 19, 20, 21, 29, 30, 31, 32, 33, 34, 35, 36, 37, 61] (by decide +kernel) (by decide +kernel)
set_option maxRecDepth 20000 in
theorem gX2_checkExpressions_X2_note : GoodIn wsX2_checkExpressions (wsV RX2 102 RX2 yX2_note wsX2_note) := goodIn_app (goodIn_of _ (by decide +kernel)) ggX2_checkExpressions_X2_note
theorem dX2_checkExpressions_0 : decode cX2_checkExpressions 0 = .ok (.iconst 0, 1) := by decide +kernel
theorem dX2_checkExpressions_1 : decode cX2_checkExpressions 1 = .ok (.istore_n 2, 1) := by decide +kernel
theorem dX2_checkExpressions_2 : decode cX2_checkExpressions 2 = .ok (.iload_n 2, 1) := by decide +kernel
theorem dX2_checkExpressions_3 : decode cX2_checkExpressions 3 = .ok (.aload_n 0, 1) := by decide +kernel
theorem dX2_checkExpressions_4 : decode cX2_checkExpressions 4 = .ok (.getfield 27, 3) := by decide +kernel
theorem dX2_checkExpressions_7 : decode cX2_checkExpressions 7 = .ok (.getfield 161, 3) := by decide +kernel
theorem dX2_checkExpressions_10 : decode cX2_checkExpressions 10 = .ok (.invokevirtual 165, 3) := by decide +kernel
theorem dX2_checkExpressions_13 : decode cX2_checkExpressions 13 = .ok (.if_icmp .ge 34, 3) := by decide +kernel
theorem dX2_checkExpressions_16 : decode cX2_checkExpressions 16 = .ok (.aload_n 0, 1) := by decide +kernel
theorem dX2_checkExpressions_17 : decode cX2_checkExpressions 17 = .ok (.getfield 31, 3) := by decide +kernel
theorem dX2_checkExpressions_20 : decode cX2_checkExpressions 20 = .ok (.iload_n 2, 1) := by decide +kernel
theorem dX2_checkExpressions_21 : decode cX2_checkExpressions 21 = .ok (.invokevirtual 168, 3) := by decide +kernel
theorem dX2_checkExpressions_24 : decode cX2_checkExpressions 24 = .ok (.ifCond .eq 17, 3) := by decide +kernel
theorem dX2_checkExpressions_27 : decode cX2_checkExpressions 27 = .ok (.aload_n 0, 1) := by decide +kernel
theorem dX2_checkExpressions_28 : decode cX2_checkExpressions 28 = .ok (.aload_n 0, 1) := by decide +kernel
theorem dX2_checkExpressions_29 : decode cX2_checkExpressions 29 = .ok (.getfield 31, 3) := by decide +kernel
theorem dX2_checkExpressions_32 : decode cX2_checkExpressions 32 = .ok (.iload_n 2, 1) := by decide +kernel
theorem dX2_checkExpressions_33 : decode cX2_checkExpressions 33 = .ok (.invokevirtual 168, 3) := by decide +kernel
theorem dX2_checkExpressions_36 : decode cX2_checkExpressions 36 = .ok (.iload_n 2, 1) := by decide +kernel
theorem dX2_checkExpressions_37 : decode cX2_checkExpressions 37 = .ok (.iload_n 1, 1) := by decide +kernel
theorem dX2_checkExpressions_38 : decode cX2_checkExpressions 38 = .ok (.invokevirtual 102, 3) := by decide +kernel
theorem dX2_checkExpressions_41 : decode cX2_checkExpressions 41 = .ok (.iinc 2 1, 3) := by decide +kernel
theorem dX2_checkExpressions_44 : decode cX2_checkExpressions 44 = .ok (.goto (-42), 3) := by decide +kernel
theorem dX2_checkExpressions_47 : decode cX2_checkExpressions 47 = .ok (.return_, 1) := by decide +kernel
set_option maxRecDepth 20000 in
theorem ggX2_checkResults_X0_size : GoodIn wsX2_checkResults wsX0_size := goodIn_r _ [10, 11, 86, 87, 88, 89] (by decide +kernel) (by decide +kernel)
set_option maxRecDepth 20000 in
theorem gX2_checkResults_X0_size : GoodIn wsX2_checkResults (wsV RX2 85 RX0 yX0_size wsX0_size) := goodIn_app (goodIn_of _ (by decide +kernel)) ggX2_checkResults_X0_size
set_option maxRecDepth 20000 in
theorem ggX2_checkResults_X5_at : GoodIn wsX2_checkResults wsX5_at := goodIn_r _ [16, 17, 90] (by decide +kernel) (by decide +kernel)
set_option maxRecDepth 20000 in
theorem gX2_checkResults_X5_at : GoodIn wsX2_checkResults (wsV RX2 68 RX5 yX5_at wsX5_at) := goodIn_app (goodIn_of _ (by decide +kernel)) ggX2_checkResults_X5_at
set_option maxRecDepth 20000 in
theorem ggX2_checkResults_X7_typeIn : GoodIn wsX2_checkResults wsX7_typeIn := goodIn_r _ [22, 23, 24, 25, 21, 26, 27, 13, 14, 15, 16, 17, 91, 92, 93, 94, 95, 96, 97, 98, 90] (by decide +kernel) (by decide +kernel)
set_option maxRecDepth 20000 in
theorem gX2_checkResults_X7_typeIn : GoodIn wsX2_checkResults (wsV RX2 177 RX7 yX7_typeIn wsX7_typeIn) := goodIn_app (goodIn_of _ (by decide +kernel)) ggX2_checkResults_X7_typeIn
set_option maxRecDepth 20000 in
theorem ggX2_checkResults_X7_isThere : GoodIn wsX2_checkResults wsX7_isThere := goodIn_r _ [31, 32, 27, 13, 14, 15, 16, 17, 33, 34, 35, 91, 92, 93, 94, 95, 96, 97, 98, 90] (by decide +kernel) (by decide +kernel)
set_option maxRecDepth 20000 in
theorem gX2_checkResults_X7_isThere : GoodIn wsX2_checkResults (wsV RX2 96 RX7 yX7_isThere wsX7_isThere) := goodIn_app (goodIn_of _ (by decide +kernel)) ggX2_checkResults_X7_isThere
set_option maxRecDepth 20000 in
theorem ggX2_checkResults_X4_resultMethod : GoodIn wsX2_checkResults wsX4_resultMethod := goodIn_r _ [40, 41, 42, 43, 13, 14, 15, 16, 17, 44, 45, 46, 47, 48, 49, 50, 78, 79, 80, 81, 82, 83, 84, 85, 90, 99, 100, 101, 102, 103, 104, 105] (by decide +kernel) (by decide +kernel)
set_option maxRecDepth 20000 in
theorem gX2_checkResults_X4_resultMethod : GoodIn wsX2_checkResults (wsV RX2 180 RX4 yX4_resultMethod wsX4_resultMethod) := goodIn_app (goodIn_of _ (by decide +kernel)) ggX2_checkResults_X4_resultMethod
set_option maxRecDepth 20000 in
theorem ggX2_checkResults_X3_type : GoodIn wsX2_checkResults wsX3_type := goodIn_r _ [55, 56, 57, 13, 14, 15, 16, 17, 106, 107, 108, 109, 110, 111, 112, 90] (by decide +kernel) (by decide +kernel)
set_option maxRecDepth 20000 in
theorem gX2_checkResults_X3_type : GoodIn wsX2_checkResults (wsV RX2 125 RX3 yX3_type wsX3_type) := goodIn_app (goodIn_of _ (by decide +kernel)) ggX2_checkResults_X3_type
set_option maxRecDepth 20000 in
theorem ggX2_checkResults_X7_fits : GoodIn wsX2_checkResults wsX7_fits := goodIn_r _ [61, 62, 27, 13, 14, 15, 16, 17, 33, 34, 35, 91, 92, 93, 94, 95, 96, 97, 98, 90] (by decide +kernel) (by decide +kernel)
set_option maxRecDepth 20000 in
theorem gX2_checkResults_X7_fits : GoodIn wsX2_checkResults (wsV RX2 158 RX7 yX7_fits wsX7_fits) := goodIn_app (goodIn_of _ (by decide +kernel)) ggX2_checkResults_X7_fits
set_option maxRecDepth 20000 in
theorem ggX2_checkResults_X2_note : GoodIn wsX2_checkResults wsX2_note := goodIn_r _ [67, 68, 12, 13, 14, 15, 16, 17, 69, 70, 71, 72, 73, 74, 75, 76, 77, 90] (by decide +kernel) (by decide +kernel)
set_option maxRecDepth 20000 in
theorem gX2_checkResults_X2_note : GoodIn wsX2_checkResults (wsV RX2 102 RX2 yX2_note wsX2_note) := goodIn_app (goodIn_of _ (by decide +kernel)) ggX2_checkResults_X2_note
theorem dX2_checkResults_0 : decode cX2_checkResults 0 = .ok (.iconst 0, 1) := by decide +kernel
theorem dX2_checkResults_1 : decode cX2_checkResults 1 = .ok (.istore_n 2, 1) := by decide +kernel
theorem dX2_checkResults_2 : decode cX2_checkResults 2 = .ok (.iload_n 2, 1) := by decide +kernel
theorem dX2_checkResults_3 : decode cX2_checkResults 3 = .ok (.aload_n 0, 1) := by decide +kernel
theorem dX2_checkResults_4 : decode cX2_checkResults 4 = .ok (.getfield 27, 3) := by decide +kernel
theorem dX2_checkResults_7 : decode cX2_checkResults 7 = .ok (.getfield 171, 3) := by decide +kernel
theorem dX2_checkResults_10 : decode cX2_checkResults 10 = .ok (.invokevirtual 85, 3) := by decide +kernel
theorem dX2_checkResults_13 : decode cX2_checkResults 13 = .ok (.if_icmp .ge 82, 3) := by decide +kernel
theorem dX2_checkResults_16 : decode cX2_checkResults 16 = .ok (.aload_n 0, 1) := by decide +kernel
theorem dX2_checkResults_17 : decode cX2_checkResults 17 = .ok (.getfield 31, 3) := by decide +kernel
theorem dX2_checkResults_20 : decode cX2_checkResults 20 = .ok (.aload_n 0, 1) := by decide +kernel
theorem dX2_checkResults_21 : decode cX2_checkResults 21 = .ok (.getfield 27, 3) := by decide +kernel
theorem dX2_checkResults_24 : decode cX2_checkResults 24 = .ok (.getfield 174, 3) := by decide +kernel
theorem dX2_checkResults_27 : decode cX2_checkResults 27 = .ok (.iload_n 2, 1) := by decide +kernel
theorem dX2_checkResults_28 : decode cX2_checkResults 28 = .ok (.invokevirtual 68, 3) := by decide +kernel
theorem dX2_checkResults_31 : decode cX2_checkResults 31 = .ok (.iload_n 1, 1) := by decide +kernel
theorem dX2_checkResults_32 : decode cX2_checkResults 32 = .ok (.invokevirtual 177, 3) := by decide +kernel
theorem dX2_checkResults_35 : decode cX2_checkResults 35 = .ok (.istore_n 3, 1) := by decide +kernel
theorem dX2_checkResults_36 : decode cX2_checkResults 36 = .ok (.aload_n 0, 1) := by decide +kernel
theorem dX2_checkResults_37 : decode cX2_checkResults 37 = .ok (.getfield 31, 3) := by decide +kernel
theorem dX2_checkResults_40 : decode cX2_checkResults 40 = .ok (.iconst 3, 1) := by decide +kernel
theorem dX2_checkResults_41 : decode cX2_checkResults 41 = .ok (.iload_n 2, 1) := by decide +kernel
theorem dX2_checkResults_42 : decode cX2_checkResults 42 = .ok (.invokevirtual 96, 3) := by decide +kernel
theorem dX2_checkResults_45 : decode cX2_checkResults 45 = .ok (.ifCond .eq 44, 3) := by decide +kernel
theorem dX2_checkResults_48 : decode cX2_checkResults 48 = .ok (.iload_n 3, 1) := by decide +kernel
theorem dX2_checkResults_49 : decode cX2_checkResults 49 = .ok (.ifCond .lt 40, 3) := by decide +kernel
theorem dX2_checkResults_52 : decode cX2_checkResults 52 = .ok (.aload_n 0, 1) := by decide +kernel
theorem dX2_checkResults_53 : decode cX2_checkResults 53 = .ok (.getfield 31, 3) := by decide +kernel
theorem dX2_checkResults_56 : decode cX2_checkResults 56 = .ok (.iload_n 3, 1) := by decide +kernel
theorem dX2_checkResults_57 : decode cX2_checkResults 57 = .ok (.aload_n 0, 1) := by decide +kernel
theorem dX2_checkResults_58 : decode cX2_checkResults 58 = .ok (.getfield 27, 3) := by decide +kernel
theorem dX2_checkResults_61 : decode cX2_checkResults 61 = .ok (.getfield 115, 3) := by decide +kernel
theorem dX2_checkResults_64 : decode cX2_checkResults 64 = .ok (.aload_n 0, 1) := by decide +kernel
theorem dX2_checkResults_65 : decode cX2_checkResults 65 = .ok (.getfield 27, 3) := by decide +kernel
theorem dX2_checkResults_68 : decode cX2_checkResults 68 = .ok (.iload_n 2, 1) := by decide +kernel
theorem dX2_checkResults_69 : decode cX2_checkResults 69 = .ok (.invokevirtual 180, 3) := by decide +kernel
theorem dX2_checkResults_72 : decode cX2_checkResults 72 = .ok (.invokevirtual 125, 3) := by decide +kernel
theorem dX2_checkResults_75 : decode cX2_checkResults 75 = .ok (.invokevirtual 158, 3) := by decide +kernel
theorem dX2_checkResults_78 : decode cX2_checkResults 78 = .ok (.ifCond .ne 11, 3) := by decide +kernel
theorem dX2_checkResults_81 : decode cX2_checkResults 81 = .ok (.aload_n 0, 1) := by decide +kernel
theorem dX2_checkResults_82 : decode cX2_checkResults 82 = .ok (.bipush 12, 2) := by decide +kernel
theorem dX2_checkResults_84 : decode cX2_checkResults 84 = .ok (.iload_n 2, 1) := by decide +kernel
theorem dX2_checkResults_85 : decode cX2_checkResults 85 = .ok (.iload_n 1, 1) := by decide +kernel
theorem dX2_checkResults_86 : decode cX2_checkResults 86 = .ok (.invokevirtual 102, 3) := by decide +kernel
theorem dX2_checkResults_89 : decode cX2_checkResults 89 = .ok (.iinc 2 1, 3) := by decide +kernel
theorem dX2_checkResults_92 : decode cX2_checkResults 92 = .ok (.goto (-90), 3) := by decide +kernel
theorem dX2_checkResults_95 : decode cX2_checkResults 95 = .ok (.return_, 1) := by decide +kernel
set_option maxRecDepth 20000 in
theorem ggX3_init_X0_init : GoodIn wsX3_init wsX0_init := goodIn_r _ [19, 20, 2, 3, 21, 22, 9, 10, 23, 24, 25, 26, 27, 28, 29, 30, 31, 33, 34, 35, 36, 44] (by decide +kernel) (by decide +kernel)
set_option maxRecDepth 20000 in
theorem gX3_init_X0_init : GoodIn wsX3_init (wsX0_init) := ggX3_init_X0_init
set_option maxRecDepth 20000 in
theorem ggX3_init_X5_init : GoodIn wsX3_init wsX5_init := goodIn_r _ [28, 29, 2, 3, 30, 31, 44] (by decide +kernel) (by decide +kernel)
set_option maxRecDepth 20000 in
theorem gX3_init_X5_init : GoodIn wsX3_init (wsX5_init) := ggX3_init_X5_init
theorem dX3_init_0 : decode cX3_init 0 = .ok (.aload_n 0, 1) := by decide +kernel
theorem dX3_init_1 : decode cX3_init 1 = .ok (.invokespecial 3, 3) := by decide +kernel
theorem dX3_init_4 : decode cX3_init 4 = .ok (.aload_n 0, 1) := by decide +kernel
theorem dX3_init_5 : decode cX3_init 5 = .ok (.new 9, 3) := by decide +kernel
theorem dX3_init_8 : decode cX3_init 8 = .ok (.dup, 1) := by decide +kernel
theorem dX3_init_9 : decode cX3_init 9 = .ok (.bipush 24, 2) := by decide +kernel
theorem dX3_init_11 : decode cX3_init 11 = .ok (.invokespecial 11, 3) := by decide +kernel
theorem dX3_init_14 : decode cX3_init 14 = .ok (.putfield 14, 3) := by decide +kernel
theorem dX3_init_17 : decode cX3_init 17 = .ok (.aload_n 0, 1) := by decide +kernel
theorem dX3_init_18 : decode cX3_init 18 = .ok (.new 20, 3) := by decide +kernel
theorem dX3_init_21 : decode cX3_init 21 = .ok (.dup, 1) := by decide +kernel
theorem dX3_init_22 : decode cX3_init 22 = .ok (.bipush 24, 2) := by decide +kernel
theorem dX3_init_24 : decode cX3_init 24 = .ok (.invokespecial 22, 3) := by decide +kernel
theorem dX3_init_27 : decode cX3_init 27 = .ok (.putfield 23, 3) := by decide +kernel
theorem dX3_init_30 : decode cX3_init 30 = .ok (.aload_n 0, 1) := by decide +kernel
theorem dX3_init_31 : decode cX3_init 31 = .ok (.new 20, 3) := by decide +kernel
theorem dX3_init_34 : decode cX3_init 34 = .ok (.dup, 1) := by decide +kernel
theorem dX3_init_35 : decode cX3_init 35 = .ok (.bipush 24, 2) := by decide +kernel
theorem dX3_init_37 : decode cX3_init 37 = .ok (.invokespecial 22, 3) := by decide +kernel
theorem dX3_init_40 : decode cX3_init 40 = .ok (.putfield 27, 3) := by decide +kernel
theorem dX3_init_43 : decode cX3_init 43 = .ok (.aload_n 0, 1) := by decide +kernel
theorem dX3_init_44 : decode cX3_init 44 = .ok (.new 20, 3) := by decide +kernel
theorem dX3_init_47 : decode cX3_init 47 = .ok (.dup, 1) := by decide +kernel
theorem dX3_init_48 : decode cX3_init 48 = .ok (.bipush 24, 2) := by decide +kernel
theorem dX3_init_50 : decode cX3_init 50 = .ok (.invokespecial 22, 3) := by decide +kernel
theorem dX3_init_53 : decode cX3_init 53 = .ok (.putfield 30, 3) := by decide +kernel
theorem dX3_init_56 : decode cX3_init 56 = .ok (.aload_n 0, 1) := by decide +kernel
theorem dX3_init_57 : decode cX3_init 57 = .ok (.new 20, 3) := by decide +kernel
theorem dX3_init_60 : decode cX3_init 60 = .ok (.dup, 1) := by decide +kernel
theorem dX3_init_61 : decode cX3_init 61 = .ok (.bipush 24, 2) := by decide +kernel
theorem dX3_init_63 : decode cX3_init 63 = .ok (.invokespecial 22, 3) := by decide +kernel
theorem dX3_init_66 : decode cX3_init 66 = .ok (.putfield 33, 3) := by decide +kernel
theorem dX3_init_69 : decode cX3_init 69 = .ok (.aload_n 0, 1) := by decide +kernel
theorem dX3_init_70 : decode cX3_init 70 = .ok (.new 20, 3) := by decide +kernel
theorem dX3_init_73 : decode cX3_init 73 = .ok (.dup, 1) := by decide +kernel
theorem dX3_init_74 : decode cX3_init 74 = .ok (.bipush 24, 2) := by decide +kernel
theorem dX3_init_76 : decode cX3_init 76 = .ok (.invokespecial 22, 3) := by decide +kernel
theorem dX3_init_79 : decode cX3_init 79 = .ok (.putfield 36, 3) := by decide +kernel
theorem dX3_init_82 : decode cX3_init 82 = .ok (.aload_n 0, 1) := by decide +kernel
theorem dX3_init_83 : decode cX3_init 83 = .ok (.new 20, 3) := by decide +kernel
theorem dX3_init_86 : decode cX3_init 86 = .ok (.dup, 1) := by decide +kernel
theorem dX3_init_87 : decode cX3_init 87 = .ok (.bipush 24, 2) := by decide +kernel
theorem dX3_init_89 : decode cX3_init 89 = .ok (.invokespecial 22, 3) := by decide +kernel
theorem dX3_init_92 : decode cX3_init 92 = .ok (.putfield 39, 3) := by decide +kernel
theorem dX3_init_95 : decode cX3_init 95 = .ok (.return_, 1) := by decide +kernel
set_option maxRecDepth 20000 in
theorem ggX3_size_X0_size : GoodIn wsX3_size wsX0_size := goodIn_r _ [6, 7, 15, 16, 17, 18] (by decide +kernel) (by decide +kernel)
set_option maxRecDepth 20000 in
theorem gX3_size_X0_size : GoodIn wsX3_size (wsV RX3 42 RX0 yX0_size wsX0_size) := goodIn_app (goodIn_of _ (by decide +kernel)) ggX3_size_X0_size
theorem dX3_size_0 : decode cX3_size 0 = .ok (.aload_n 0, 1) := by decide +kernel
theorem dX3_size_1 : decode cX3_size 1 = .ok (.getfield 14, 3) := by decide +kernel
theorem dX3_size_4 : decode cX3_size 4 = .ok (.invokevirtual 42, 3) := by decide +kernel
theorem dX3_size_7 : decode cX3_size 7 = .ok (.ireturn, 1) := by decide +kernel
set_option maxRecDepth 20000 in
theorem ggX3_hasMethod_X0_has : GoodIn wsX3_hasMethod wsX0_has := goodIn_r _ [7, 8, 22, 23, 24, 25] (by decide +kernel) (by decide +kernel)
set_option maxRecDepth 20000 in
theorem gX3_hasMethod_X0_has : GoodIn wsX3_hasMethod (wsV RX3 46 RX0 yX0_has wsX0_has) := goodIn_app (goodIn_of _ (by decide +kernel)) ggX3_hasMethod_X0_has
set_option maxRecDepth 20000 in
theorem ggX3_hasMethod_X5_at : GoodIn wsX3_hasMethod wsX5_at := goodIn_r _ [13, 14, 26] (by decide +kernel) (by decide +kernel)
set_option maxRecDepth 20000 in
theorem gX3_hasMethod_X5_at : GoodIn wsX3_hasMethod (wsV RX3 50 RX5 yX5_at wsX5_at) := goodIn_app (goodIn_of _ (by decide +kernel)) ggX3_hasMethod_X5_at
theorem dX3_hasMethod_0 : decode cX3_hasMethod 0 = .ok (.aload_n 0, 1) := by decide +kernel
theorem dX3_hasMethod_1 : decode cX3_hasMethod 1 = .ok (.getfield 14, 3) := by decide +kernel
theorem dX3_hasMethod_4 : decode cX3_hasMethod 4 = .ok (.iload_n 1, 1) := by decide +kernel
theorem dX3_hasMethod_5 : decode cX3_hasMethod 5 = .ok (.invokevirtual 46, 3) := by decide +kernel
theorem dX3_hasMethod_8 : decode cX3_hasMethod 8 = .ok (.ifCond .eq 19, 3) := by decide +kernel
theorem dX3_hasMethod_11 : decode cX3_hasMethod 11 = .ok (.aload_n 0, 1) := by decide +kernel
theorem dX3_hasMethod_12 : decode cX3_hasMethod 12 = .ok (.getfield 23, 3) := by decide +kernel
theorem dX3_hasMethod_15 : decode cX3_hasMethod 15 = .ok (.iload_n 1, 1) := by decide +kernel
theorem dX3_hasMethod_16 : decode cX3_hasMethod 16 = .ok (.invokevirtual 50, 3) := by decide +kernel
theorem dX3_hasMethod_19 : decode cX3_hasMethod 19 = .ok (.iconst 1, 1) := by decide +kernel
theorem dX3_hasMethod_20 : decode cX3_hasMethod 20 = .ok (.if_icmp .ne 7, 3) := by decide +kernel
theorem dX3_hasMethod_23 : decode cX3_hasMethod 23 = .ok (.iconst 1, 1) := by decide +kernel
theorem dX3_hasMethod_24 : decode cX3_hasMethod 24 = .ok (.goto 4, 3) := by decide +kernel
theorem dX3_hasMethod_27 : decode cX3_hasMethod 27 = .ok (.iconst 0, 1) := by decide +kernel
theorem dX3_hasMethod_28 : decode cX3_hasMethod 28 = .ok (.ireturn, 1) := by decide +kernel
set_option maxRecDepth 20000 in
theorem ggX3_append_X0_append : GoodIn wsX3_append wsX0_append := goodIn_r _ [9, 10, 11, 12, 13, 8, 14, 15, 16, 17, 18, 19, 20, 21, 22, 23, 24, 25, 26, 35, 36, 37, 38, 39] (by decide +kernel) (by decide +kernel)
set_option maxRecDepth 20000 in
theorem gX3_append_X0_append : GoodIn wsX3_append (wsV RX3 54 RX0 yX0_append wsX0_append) := goodIn_app (goodIn_of _ (by decide +kernel)) ggX3_append_X0_append
set_option maxRecDepth 20000 in
theorem ggX3_append_X5_put : GoodIn wsX3_append wsX5_put := goodIn_r _ [22, 23, 39] (by decide +kernel) (by decide +kernel)
set_option maxRecDepth 20000 in
theorem gX3_append_X5_put : GoodIn wsX3_append (wsV RX3 58 RX5 yX5_put wsX5_put) := goodIn_app (goodIn_of _ (by decide +kernel)) ggX3_append_X5_put
theorem dX3_append_0 : decode cX3_append 0 = .ok (.aload_n 0, 1) := by decide +kernel
theorem dX3_append_1 : decode cX3_append 1 = .ok (.getfield 14, 3) := by decide +kernel
theorem dX3_append_4 : decode cX3_append 4 = .ok (.iload 4, 2) := by decide +kernel
theorem dX3_append_6 : decode cX3_append 6 = .ok (.iload 5, 2) := by decide +kernel
theorem dX3_append_8 : decode cX3_append 8 = .ok (.invokevirtual 54, 3) := by decide +kernel
theorem dX3_append_11 : decode cX3_append 11 = .ok (.istore 6, 2) := by decide +kernel
theorem dX3_append_13 : decode cX3_append 13 = .ok (.aload_n 0, 1) := by decide +kernel
theorem dX3_append_14 : decode cX3_append 14 = .ok (.getfield 23, 3) := by decide +kernel
theorem dX3_append_17 : decode cX3_append 17 = .ok (.iload 6, 2) := by decide +kernel
theorem dX3_append_19 : decode cX3_append 19 = .ok (.iload_n 1, 1) := by decide +kernel
theorem dX3_append_20 : decode cX3_append 20 = .ok (.invokevirtual 58, 3) := by decide +kernel
theorem dX3_append_23 : decode cX3_append 23 = .ok (.aload_n 0, 1) := by decide +kernel
theorem dX3_append_24 : decode cX3_append 24 = .ok (.getfield 27, 3) := by decide +kernel
theorem dX3_append_27 : decode cX3_append 27 = .ok (.iload 6, 2) := by decide +kernel
theorem dX3_append_29 : decode cX3_append 29 = .ok (.iload_n 2, 1) := by decide +kernel
theorem dX3_append_30 : decode cX3_append 30 = .ok (.invokevirtual 58, 3) := by decide +kernel
theorem dX3_append_33 : decode cX3_append 33 = .ok (.aload_n 0, 1) := by decide +kernel
theorem dX3_append_34 : decode cX3_append 34 = .ok (.getfield 30, 3) := by decide +kernel
theorem dX3_append_37 : decode cX3_append 37 = .ok (.iload 6, 2) := by decide +kernel
theorem dX3_append_39 : decode cX3_append 39 = .ok (.iload_n 3, 1) := by decide +kernel
theorem dX3_append_40 : decode cX3_append 40 = .ok (.invokevirtual 58, 3) := by decide +kernel
theorem dX3_append_43 : decode cX3_append 43 = .ok (.iload 6, 2) := by decide +kernel
theorem dX3_append_45 : decode cX3_append 45 = .ok (.ireturn, 1) := by decide +kernel
set_option maxRecDepth 20000 in
theorem ggX3_setTypes_X5_put : GoodIn wsX3_setTypes wsX5_put := goodIn_r _ [8, 9, 17] (by decide +kernel) (by decide +kernel)
set_option maxRecDepth 20000 in
theorem gX3_setTypes_X5_put : GoodIn wsX3_setTypes (wsV RX3 58 RX5 yX5_put wsX5_put) := goodIn_app (goodIn_of _ (by decide +kernel)) ggX3_setTypes_X5_put
theorem dX3_setTypes_0 : decode cX3_setTypes 0 = .ok (.aload_n 0, 1) := by decide +kernel
theorem dX3_setTypes_1 : decode cX3_setTypes 1 = .ok (.getfield 33, 3) := by decide +kernel
theorem dX3_setTypes_4 : decode cX3_setTypes 4 = .ok (.iload_n 1, 1) := by decide +kernel
theorem dX3_setTypes_5 : decode cX3_setTypes 5 = .ok (.iload_n 2, 1) := by decide +kernel
theorem dX3_setTypes_6 : decode cX3_setTypes 6 = .ok (.invokevirtual 58, 3) := by decide +kernel
theorem dX3_setTypes_9 : decode cX3_setTypes 9 = .ok (.aload_n 0, 1) := by decide +kernel
theorem dX3_setTypes_10 : decode cX3_setTypes 10 = .ok (.getfield 36, 3) := by decide +kernel
theorem dX3_setTypes_13 : decode cX3_setTypes 13 = .ok (.iload_n 1, 1) := by decide +kernel
theorem dX3_setTypes_14 : decode cX3_setTypes 14 = .ok (.iload_n 3, 1) := by decide +kernel
theorem dX3_setTypes_15 : decode cX3_setTypes 15 = .ok (.invokevirtual 58, 3) := by decide +kernel
theorem dX3_setTypes_18 : decode cX3_setTypes 18 = .ok (.aload_n 0, 1) := by decide +kernel
theorem dX3_setTypes_19 : decode cX3_setTypes 19 = .ok (.getfield 39, 3) := by decide +kernel
theorem dX3_setTypes_22 : decode cX3_setTypes 22 = .ok (.iload_n 1, 1) := by decide +kernel
theorem dX3_setTypes_23 : decode cX3_setTypes 23 = .ok (.iload 4, 2) := by decide +kernel
theorem dX3_setTypes_25 : decode cX3_setTypes 25 = .ok (.invokevirtual 58, 3) := by decide +kernel
theorem dX3_setTypes_28 : decode cX3_setTypes 28 = .ok (.return_, 1) := by decide +kernel
set_option maxRecDepth 20000 in
theorem ggX3_sort_X5_at : GoodIn wsX3_sort wsX5_at := goodIn_r _ [6, 7, 15] (by decide +kernel) (by decide +kernel)
set_option maxRecDepth 20000 in
theorem gX3_sort_X5_at : GoodIn wsX3_sort (wsV RX3 50 RX5 yX5_at wsX5_at) := goodIn_app (goodIn_of _ (by decide +kernel)) ggX3_sort_X5_at
theorem dX3_sort_0 : decode cX3_sort 0 = .ok (.aload_n 0, 1) := by decide +kernel
theorem dX3_sort_1 : decode cX3_sort 1 = .ok (.getfield 23, 3) := by decide +kernel
theorem dX3_sort_4 : decode cX3_sort 4 = .ok (.iload_n 1, 1) := by decide +kernel
theorem dX3_sort_5 : decode cX3_sort 5 = .ok (.invokevirtual 50, 3) := by decide +kernel
theorem dX3_sort_8 : decode cX3_sort 8 = .ok (.ireturn, 1) := by decide +kernel
set_option maxRecDepth 20000 in
theorem ggX3_owner_X5_at : GoodIn wsX3_owner wsX5_at := goodIn_r _ [6, 7, 15] (by decide +kernel) (by decide +kernel)
set_option maxRecDepth 20000 in
theorem gX3_owner_X5_at : GoodIn wsX3_owner (wsV RX3 50 RX5 yX5_at wsX5_at) := goodIn_app (goodIn_of _ (by decide +kernel)) ggX3_owner_X5_at
theorem dX3_owner_0 : decode cX3_owner 0 = .ok (.aload_n 0, 1) := by decide +kernel
theorem dX3_owner_1 : decode cX3_owner 1 = .ok (.getfield 27, 3) := by decide +kernel
theorem dX3_owner_4 : decode cX3_owner 4 = .ok (.iload_n 1, 1) := by decide +kernel
theorem dX3_owner_5 : decode cX3_owner 5 = .ok (.invokevirtual 50, 3) := by decide +kernel
theorem dX3_owner_8 : decode cX3_owner 8 = .ok (.ireturn, 1) := by decide +kernel
set_option maxRecDepth 20000 in
theorem ggX3_name_X5_at : GoodIn wsX3_name wsX5_at := goodIn_r _ [6, 7, 15] (by decide +kernel) (by decide +kernel)
set_option maxRecDepth 20000 in
theorem gX3_name_X5_at : GoodIn wsX3_name (wsV RX3 50 RX5 yX5_at wsX5_at) := goodIn_app (goodIn_of _ (by decide +kernel)) ggX3_name_X5_at
theorem dX3_name_0 : decode cX3_name 0 = .ok (.aload_n 0, 1) := by decide +kernel
theorem dX3_name_1 : decode cX3_name 1 = .ok (.getfield 30, 3) := by decide +kernel
theorem dX3_name_4 : decode cX3_name 4 = .ok (.iload_n 1, 1) := by decide +kernel
theorem dX3_name_5 : decode cX3_name 5 = .ok (.invokevirtual 50, 3) := by decide +kernel
theorem dX3_name_8 : decode cX3_name 8 = .ok (.ireturn, 1) := by decide +kernel
set_option maxRecDepth 20000 in
theorem ggX3_type_X5_at : GoodIn wsX3_type wsX5_at := goodIn_r _ [6, 7, 15] (by decide +kernel) (by decide +kernel)
set_option maxRecDepth 20000 in
theorem gX3_type_X5_at : GoodIn wsX3_type (wsV RX3 50 RX5 yX5_at wsX5_at) := goodIn_app (goodIn_of _ (by decide +kernel)) ggX3_type_X5_at
theorem dX3_type_0 : decode cX3_type 0 = .ok (.aload_n 0, 1) := by decide +kernel
theorem dX3_type_1 : decode cX3_type 1 = .ok (.getfield 33, 3) := by decide +kernel
theorem dX3_type_4 : decode cX3_type 4 = .ok (.iload_n 1, 1) := by decide +kernel
theorem dX3_type_5 : decode cX3_type 5 = .ok (.invokevirtual 50, 3) := by decide +kernel
theorem dX3_type_8 : decode cX3_type 8 = .ok (.ireturn, 1) := by decide +kernel
set_option maxRecDepth 20000 in
theorem ggX3_parameter_X5_at : GoodIn wsX3_parameter wsX5_at := goodIn_r _ [7, 8, 16] (by decide +kernel) (by decide +kernel)
set_option maxRecDepth 20000 in
theorem gX3_parameter_X5_at : GoodIn wsX3_parameter (wsV RX3 50 RX5 yX5_at wsX5_at) := goodIn_app (goodIn_of _ (by decide +kernel)) ggX3_parameter_X5_at
theorem dX3_parameter_0 : decode cX3_parameter 0 = .ok (.iload_n 2, 1) := by decide +kernel
theorem dX3_parameter_1 : decode cX3_parameter 1 = .ok (.ifCond .ne 14, 3) := by decide +kernel
theorem dX3_parameter_4 : decode cX3_parameter 4 = .ok (.aload_n 0, 1) := by decide +kernel
theorem dX3_parameter_5 : decode cX3_parameter 5 = .ok (.getfield 36, 3) := by decide +kernel
theorem dX3_parameter_8 : decode cX3_parameter 8 = .ok (.iload_n 1, 1) := by decide +kernel
theorem dX3_parameter_9 : decode cX3_parameter 9 = .ok (.invokevirtual 50, 3) := by decide +kernel
theorem dX3_parameter_12 : decode cX3_parameter 12 = .ok (.goto 20, 3) := by decide +kernel
theorem dX3_parameter_15 : decode cX3_parameter 15 = .ok (.iload_n 2, 1) := by decide +kernel
theorem dX3_parameter_16 : decode cX3_parameter 16 = .ok (.iconst 1, 1) := by decide +kernel
theorem dX3_parameter_17 : decode cX3_parameter 17 = .ok (.if_icmp .ne 14, 3) := by decide +kernel
theorem dX3_parameter_20 : decode cX3_parameter 20 = .ok (.aload_n 0, 1) := by decide +kernel
theorem dX3_parameter_21 : decode cX3_parameter 21 = .ok (.getfield 39, 3) := by decide +kernel
theorem dX3_parameter_24 : decode cX3_parameter 24 = .ok (.iload_n 1, 1) := by decide +kernel
theorem dX3_parameter_25 : decode cX3_parameter 25 = .ok (.invokevirtual 50, 3) := by decide +kernel
theorem dX3_parameter_28 : decode cX3_parameter 28 = .ok (.goto 4, 3) := by decide +kernel
theorem dX3_parameter_31 : decode cX3_parameter 31 = .ok (.iconst (-1), 1) := by decide +kernel
theorem dX3_parameter_32 : decode cX3_parameter 32 = .ok (.ireturn, 1) := by decide +kernel
set_option maxRecDepth 20000 in
theorem ggX4_init_X0_init : GoodIn wsX4_init wsX0_init := goodIn_r _ [26, 27, 2, 3, 28, 29, 10, 11, 30, 31, 32, 33, 34, 35, 36, 37, 38, 66, 67, 68, 69, 78] (by decide +kernel) (by decide +kernel)
set_option maxRecDepth 20000 in
theorem gX4_init_X0_init : GoodIn wsX4_init (wsX0_init) := ggX4_init_X0_init
set_option maxRecDepth 20000 in
theorem ggX4_init_X5_init : GoodIn wsX4_init wsX5_init := goodIn_r _ [35, 36, 2, 3, 37, 38, 78] (by decide +kernel) (by decide +kernel)
set_option maxRecDepth 20000 in
theorem gX4_init_X5_init : GoodIn wsX4_init (wsX5_init) := ggX4_init_X5_init
set_option maxRecDepth 20000 in
theorem ggX4_init_X3_init : GoodIn wsX4_init wsX3_init := goodIn_r _ [41, 42, 2, 3, 43, 5, 6, 44, 45, 10, 11, 46, 47, 48, 49, 50, 51, 52, 25, 26, 27, 28, 29, 30, 31, 32, 33, 34, 35, 36, 37, 38, 53, 66, 67, 68, 69, 79, 80, 81, 82, 83, 84, 85, 78] (by decide +kernel) (by decide +kernel)
set_option maxRecDepth 20000 in
theorem gX4_init_X3_init_n35 : GoodIn wsX4_init (wsX3_init) := ggX4_init_X3_init
set_option maxRecDepth 20000 in
theorem ggX4_init_X1_init : GoodIn wsX4_init wsX1_init := goodIn_r _ [55, 56, 2, 3, 57, 10, 11, 58, 59, 60, 61, 62, 63, 64, 65, 34, 35, 36, 37, 38, 78, 86, 87, 88, 89, 90, 91, 92] (by decide +kernel) (by decide +kernel)
set_option maxRecDepth 20000 in
theorem gX4_init_X1_init_n42 : GoodIn wsX4_init (wsX1_init) := ggX4_init_X1_init
theorem dX4_init_0 : decode cX4_init 0 = .ok (.aload_n 0, 1) := by decide +kernel
theorem dX4_init_1 : decode cX4_init 1 = .ok (.invokespecial 3, 3) := by decide +kernel
theorem dX4_init_4 : decode cX4_init 4 = .ok (.aload_n 0, 1) := by decide +kernel
theorem dX4_init_5 : decode cX4_init 5 = .ok (.new 9, 3) := by decide +kernel
theorem dX4_init_8 : decode cX4_init 8 = .ok (.dup, 1) := by decide +kernel
theorem dX4_init_9 : decode cX4_init 9 = .ok (.bipush 8, 2) := by decide +kernel
theorem dX4_init_11 : decode cX4_init 11 = .ok (.invokespecial 11, 3) := by decide +kernel
theorem dX4_init_14 : decode cX4_init 14 = .ok (.putfield 14, 3) := by decide +kernel
theorem dX4_init_17 : decode cX4_init 17 = .ok (.aload_n 0, 1) := by decide +kernel
theorem dX4_init_18 : decode cX4_init 18 = .ok (.new 9, 3) := by decide +kernel
theorem dX4_init_21 : decode cX4_init 21 = .ok (.dup, 1) := by decide +kernel
theorem dX4_init_22 : decode cX4_init 22 = .ok (.bipush 12, 2) := by decide +kernel
theorem dX4_init_24 : decode cX4_init 24 = .ok (.invokespecial 11, 3) := by decide +kernel
theorem dX4_init_27 : decode cX4_init 27 = .ok (.putfield 20, 3) := by decide +kernel
theorem dX4_init_30 : decode cX4_init 30 = .ok (.aload_n 0, 1) := by decide +kernel
theorem dX4_init_31 : decode cX4_init 31 = .ok (.new 23, 3) := by decide +kernel
theorem dX4_init_34 : decode cX4_init 34 = .ok (.dup, 1) := by decide +kernel
theorem dX4_init_35 : decode cX4_init 35 = .ok (.bipush 12, 2) := by decide +kernel
theorem dX4_init_37 : decode cX4_init 37 = .ok (.invokespecial 25, 3) := by decide +kernel
theorem dX4_init_40 : decode cX4_init 40 = .ok (.putfield 26, 3) := by decide +kernel
theorem dX4_init_43 : decode cX4_init 43 = .ok (.aload_n 0, 1) := by decide +kernel
theorem dX4_init_44 : decode cX4_init 44 = .ok (.new 23, 3) := by decide +kernel
theorem dX4_init_47 : decode cX4_init 47 = .ok (.dup, 1) := by decide +kernel
theorem dX4_init_48 : decode cX4_init 48 = .ok (.bipush 12, 2) := by decide +kernel
theorem dX4_init_50 : decode cX4_init 50 = .ok (.invokespecial 25, 3) := by decide +kernel
theorem dX4_init_53 : decode cX4_init 53 = .ok (.putfield 30, 3) := by decide +kernel
theorem dX4_init_56 : decode cX4_init 56 = .ok (.aload_n 0, 1) := by decide +kernel
theorem dX4_init_57 : decode cX4_init 57 = .ok (.new 33, 3) := by decide +kernel
theorem dX4_init_60 : decode cX4_init 60 = .ok (.dup, 1) := by decide +kernel
theorem dX4_init_61 : decode cX4_init 61 = .ok (.invokespecial 35, 3) := by decide +kernel
theorem dX4_init_64 : decode cX4_init 64 = .ok (.putfield 36, 3) := by decide +kernel
theorem dX4_init_67 : decode cX4_init 67 = .ok (.aload_n 0, 1) := by decide +kernel
theorem dX4_init_68 : decode cX4_init 68 = .ok (.new 40, 3) := by decide +kernel
theorem dX4_init_71 : decode cX4_init 71 = .ok (.dup, 1) := by decide +kernel
theorem dX4_init_72 : decode cX4_init 72 = .ok (.invokespecial 42, 3) := by decide +kernel
theorem dX4_init_75 : decode cX4_init 75 = .ok (.putfield 43, 3) := by decide +kernel
theorem dX4_init_78 : decode cX4_init 78 = .ok (.aload_n 0, 1) := by decide +kernel
theorem dX4_init_79 : decode cX4_init 79 = .ok (.new 9, 3) := by decide +kernel
theorem dX4_init_82 : decode cX4_init 82 = .ok (.dup, 1) := by decide +kernel
theorem dX4_init_83 : decode cX4_init 83 = .ok (.bipush 16, 2) := by decide +kernel
theorem dX4_init_85 : decode cX4_init 85 = .ok (.invokespecial 11, 3) := by decide +kernel
theorem dX4_init_88 : decode cX4_init 88 = .ok (.putfield 47, 3) := by decide +kernel
theorem dX4_init_91 : decode cX4_init 91 = .ok (.aload_n 0, 1) := by decide +kernel
theorem dX4_init_92 : decode cX4_init 92 = .ok (.new 23, 3) := by decide +kernel
theorem dX4_init_95 : decode cX4_init 95 = .ok (.dup, 1) := by decide +kernel
theorem dX4_init_96 : decode cX4_init 96 = .ok (.bipush 16, 2) := by decide +kernel
theorem dX4_init_98 : decode cX4_init 98 = .ok (.invokespecial 25, 3) := by decide +kernel
theorem dX4_init_101 : decode cX4_init 101 = .ok (.putfield 50, 3) := by decide +kernel
theorem dX4_init_104 : decode cX4_init 104 = .ok (.return_, 1) := by decide +kernel
set_option maxRecDepth 20000 in
theorem ggX4_appendLink_X0_append : GoodIn wsX4_appendLink wsX0_append := goodIn_r _ [8, 9, 10, 11, 12, 7, 13, 14, 15, 16, 17, 18, 19, 20, 21, 22, 23, 24, 25, 35, 36, 37, 38, 39] (by decide +kernel) (by decide +kernel)
set_option maxRecDepth 20000 in
theorem gX4_appendLink_X0_append : GoodIn wsX4_appendLink (wsV RX4 53 RX0 yX0_append wsX0_append) := goodIn_app (goodIn_of _ (by decide +kernel)) ggX4_appendLink_X0_append
set_option maxRecDepth 20000 in
theorem ggX4_appendLink_X5_put : GoodIn wsX4_appendLink wsX5_put := goodIn_r _ [21, 22, 39] (by decide +kernel) (by decide +kernel)
set_option maxRecDepth 20000 in
theorem gX4_appendLink_X5_put : GoodIn wsX4_appendLink (wsV RX4 57 RX5 yX5_put wsX5_put) := goodIn_app (goodIn_of _ (by decide +kernel)) ggX4_appendLink_X5_put
theorem dX4_appendLink_0 : decode cX4_appendLink 0 = .ok (.aload_n 0, 1) := by decide +kernel
theorem dX4_appendLink_1 : decode cX4_appendLink 1 = .ok (.getfield 20, 3) := by decide +kernel
theorem dX4_appendLink_4 : decode cX4_appendLink 4 = .ok (.iload_n 3, 1) := by decide +kernel
theorem dX4_appendLink_5 : decode cX4_appendLink 5 = .ok (.iload 4, 2) := by decide +kernel
theorem dX4_appendLink_7 : decode cX4_appendLink 7 = .ok (.invokevirtual 53, 3) := by decide +kernel
theorem dX4_appendLink_10 : decode cX4_appendLink 10 = .ok (.istore 5, 2) := by decide +kernel
theorem dX4_appendLink_12 : decode cX4_appendLink 12 = .ok (.aload_n 0, 1) := by decide +kernel
theorem dX4_appendLink_13 : decode cX4_appendLink 13 = .ok (.getfield 26, 3) := by decide +kernel
theorem dX4_appendLink_16 : decode cX4_appendLink 16 = .ok (.iload 5, 2) := by decide +kernel
theorem dX4_appendLink_18 : decode cX4_appendLink 18 = .ok (.iload_n 1, 1) := by decide +kernel
theorem dX4_appendLink_19 : decode cX4_appendLink 19 = .ok (.invokevirtual 57, 3) := by decide +kernel
theorem dX4_appendLink_22 : decode cX4_appendLink 22 = .ok (.aload_n 0, 1) := by decide +kernel
theorem dX4_appendLink_23 : decode cX4_appendLink 23 = .ok (.getfield 30, 3) := by decide +kernel
theorem dX4_appendLink_26 : decode cX4_appendLink 26 = .ok (.iload 5, 2) := by decide +kernel
theorem dX4_appendLink_28 : decode cX4_appendLink 28 = .ok (.iload_n 2, 1) := by decide +kernel
theorem dX4_appendLink_29 : decode cX4_appendLink 29 = .ok (.invokevirtual 57, 3) := by decide +kernel
theorem dX4_appendLink_32 : decode cX4_appendLink 32 = .ok (.iload 5, 2) := by decide +kernel
theorem dX4_appendLink_34 : decode cX4_appendLink 34 = .ok (.ireturn, 1) := by decide +kernel
set_option maxRecDepth 20000 in
theorem ggX4_appendResult_X0_append : GoodIn wsX4_appendResult wsX0_append := goodIn_r _ [7, 8, 9, 10, 11, 6, 12, 13, 14, 15, 16, 17, 18, 19, 20, 21, 22, 23, 24, 34, 35, 36, 37, 38] (by decide +kernel) (by decide +kernel)
set_option maxRecDepth 20000 in
theorem gX4_appendResult_X0_append : GoodIn wsX4_appendResult (wsV RX4 53 RX0 yX0_append wsX0_append) := goodIn_app (goodIn_of _ (by decide +kernel)) ggX4_appendResult_X0_append
set_option maxRecDepth 20000 in
theorem ggX4_appendResult_X5_put : GoodIn wsX4_appendResult wsX5_put := goodIn_r _ [20, 21, 38] (by decide +kernel) (by decide +kernel)
set_option maxRecDepth 20000 in
theorem gX4_appendResult_X5_put : GoodIn wsX4_appendResult (wsV RX4 57 RX5 yX5_put wsX5_put) := goodIn_app (goodIn_of _ (by decide +kernel)) ggX4_appendResult_X5_put
theorem dX4_appendResult_0 : decode cX4_appendResult 0 = .ok (.aload_n 0, 1) := by decide +kernel
theorem dX4_appendResult_1 : decode cX4_appendResult 1 = .ok (.getfield 47, 3) := by decide +kernel
theorem dX4_appendResult_4 : decode cX4_appendResult 4 = .ok (.iload_n 2, 1) := by decide +kernel
theorem dX4_appendResult_5 : decode cX4_appendResult 5 = .ok (.iload_n 3, 1) := by decide +kernel
theorem dX4_appendResult_6 : decode cX4_appendResult 6 = .ok (.invokevirtual 53, 3) := by decide +kernel
theorem dX4_appendResult_9 : decode cX4_appendResult 9 = .ok (.istore 4, 2) := by decide +kernel
theorem dX4_appendResult_11 : decode cX4_appendResult 11 = .ok (.aload_n 0, 1) := by decide +kernel
theorem dX4_appendResult_12 : decode cX4_appendResult 12 = .ok (.getfield 50, 3) := by decide +kernel
theorem dX4_appendResult_15 : decode cX4_appendResult 15 = .ok (.iload 4, 2) := by decide +kernel
theorem dX4_appendResult_17 : decode cX4_appendResult 17 = .ok (.iload_n 1, 1) := by decide +kernel
theorem dX4_appendResult_18 : decode cX4_appendResult 18 = .ok (.invokevirtual 57, 3) := by decide +kernel
theorem dX4_appendResult_21 : decode cX4_appendResult 21 = .ok (.iload 4, 2) := by decide +kernel
theorem dX4_appendResult_23 : decode cX4_appendResult 23 = .ok (.ireturn, 1) := by decide +kernel
theorem dX4_conditions_0 : decode cX4_conditions 0 = .ok (.iload_n 1, 1) := by decide +kernel
theorem dX4_conditions_1 : decode cX4_conditions 1 = .ok (.ifCond .ne 10, 3) := by decide +kernel
theorem dX4_conditions_4 : decode cX4_conditions 4 = .ok (.aload_n 0, 1) := by decide +kernel
theorem dX4_conditions_5 : decode cX4_conditions 5 = .ok (.getfield 14, 3) := by decide +kernel
theorem dX4_conditions_8 : decode cX4_conditions 8 = .ok (.goto 34, 3) := by decide +kernel
theorem dX4_conditions_11 : decode cX4_conditions 11 = .ok (.iload_n 1, 1) := by decide +kernel
theorem dX4_conditions_12 : decode cX4_conditions 12 = .ok (.iconst 1, 1) := by decide +kernel
theorem dX4_conditions_13 : decode cX4_conditions 13 = .ok (.if_icmp .ne 10, 3) := by decide +kernel
theorem dX4_conditions_16 : decode cX4_conditions 16 = .ok (.aload_n 0, 1) := by decide +kernel
theorem dX4_conditions_17 : decode cX4_conditions 17 = .ok (.getfield 20, 3) := by decide +kernel
theorem dX4_conditions_20 : decode cX4_conditions 20 = .ok (.goto 22, 3) := by decide +kernel
theorem dX4_conditions_23 : decode cX4_conditions 23 = .ok (.iload_n 1, 1) := by decide +kernel
theorem dX4_conditions_24 : decode cX4_conditions 24 = .ok (.iconst 2, 1) := by decide +kernel
theorem dX4_conditions_25 : decode cX4_conditions 25 = .ok (.if_icmp .ne 13, 3) := by decide +kernel
theorem dX4_conditions_28 : decode cX4_conditions 28 = .ok (.aload_n 0, 1) := by decide +kernel
theorem dX4_conditions_29 : decode cX4_conditions 29 = .ok (.getfield 36, 3) := by decide +kernel
theorem dX4_conditions_32 : decode cX4_conditions 32 = .ok (.getfield 61, 3) := by decide +kernel
theorem dX4_conditions_35 : decode cX4_conditions 35 = .ok (.goto 7, 3) := by decide +kernel
theorem dX4_conditions_38 : decode cX4_conditions 38 = .ok (.aload_n 0, 1) := by decide +kernel
theorem dX4_conditions_39 : decode cX4_conditions 39 = .ok (.getfield 47, 3) := by decide +kernel
theorem dX4_conditions_42 : decode cX4_conditions 42 = .ok (.areturn, 1) := by decide +kernel
set_option maxRecDepth 20000 in
theorem ggX4_size_X1_size : GoodIn wsX4_size wsX1_size := goodIn_r _ [6, 7, 32, 33, 34, 35, 36, 37, 38] (by decide +kernel) (by decide +kernel)
set_option maxRecDepth 20000 in
theorem gX4_size_X1_size : GoodIn wsX4_size (wsV RX4 64 RX1 yX1_size wsX1_size) := goodIn_app (goodIn_of _ (by decide +kernel)) ggX4_size_X1_size
set_option maxRecDepth 20000 in
theorem ggX4_size_X4_conditions : GoodIn wsX4_size wsX4_conditions := goodIn_r _ [12, 13, 14, 15, 16, 17, 24, 25, 26, 27, 28, 29, 30, 31, 39, 40, 41, 42, 43, 44, 45] (by decide +kernel) (by decide +kernel)
set_option maxRecDepth 20000 in
theorem gX4_size_X4_conditions : GoodIn wsX4_size (wsV RX4 68 RX4 yX4_conditions wsX4_conditions) := goodIn_app (goodIn_of _ (by decide +kernel)) ggX4_size_X4_conditions
set_option maxRecDepth 20000 in
theorem ggX4_size_X0_size : GoodIn wsX4_size wsX0_size := goodIn_r _ [22, 23, 46, 47, 48, 49] (by decide +kernel) (by decide +kernel)
set_option maxRecDepth 20000 in
theorem gX4_size_X0_size : GoodIn wsX4_size (wsV RX4 71 RX0 yX0_size wsX0_size) := goodIn_app (goodIn_of _ (by decide +kernel)) ggX4_size_X0_size
theorem dX4_size_0 : decode cX4_size 0 = .ok (.iload_n 1, 1) := by decide +kernel
theorem dX4_size_1 : decode cX4_size 1 = .ok (.iconst 4, 1) := by decide +kernel
theorem dX4_size_2 : decode cX4_size 2 = .ok (.if_icmp .ne 13, 3) := by decide +kernel
theorem dX4_size_5 : decode cX4_size 5 = .ok (.aload_n 0, 1) := by decide +kernel
theorem dX4_size_6 : decode cX4_size 6 = .ok (.getfield 43, 3) := by decide +kernel
theorem dX4_size_9 : decode cX4_size 9 = .ok (.invokevirtual 64, 3) := by decide +kernel
theorem dX4_size_12 : decode cX4_size 12 = .ok (.goto 11, 3) := by decide +kernel
theorem dX4_size_15 : decode cX4_size 15 = .ok (.aload_n 0, 1) := by decide +kernel
theorem dX4_size_16 : decode cX4_size 16 = .ok (.iload_n 1, 1) := by decide +kernel
theorem dX4_size_17 : decode cX4_size 17 = .ok (.invokevirtual 68, 3) := by decide +kernel
theorem dX4_size_20 : decode cX4_size 20 = .ok (.invokevirtual 71, 3) := by decide +kernel
theorem dX4_size_23 : decode cX4_size 23 = .ok (.ireturn, 1) := by decide +kernel
set_option maxRecDepth 20000 in
theorem ggX4_hasType_X0_has : GoodIn wsX4_hasType wsX0_has := goodIn_r _ [6, 7, 16, 17, 18, 19] (by decide +kernel) (by decide +kernel)
set_option maxRecDepth 20000 in
theorem gX4_hasType_X0_has : GoodIn wsX4_hasType (wsV RX4 72 RX0 yX0_has wsX0_has) := goodIn_app (goodIn_of _ (by decide +kernel)) ggX4_hasType_X0_has
theorem dX4_hasType_0 : decode cX4_hasType 0 = .ok (.iload_n 1, 1) := by decide +kernel
theorem dX4_hasType_1 : decode cX4_hasType 1 = .ok (.bipush 8, 2) := by decide +kernel
theorem dX4_hasType_3 : decode cX4_hasType 3 = .ok (.if_icmp .eq 14, 3) := by decide +kernel
theorem dX4_hasType_6 : decode cX4_hasType 6 = .ok (.aload_n 0, 1) := by decide +kernel
theorem dX4_hasType_7 : decode cX4_hasType 7 = .ok (.getfield 14, 3) := by decide +kernel
theorem dX4_hasType_10 : decode cX4_hasType 10 = .ok (.iload_n 1, 1) := by decide +kernel
theorem dX4_hasType_11 : decode cX4_hasType 11 = .ok (.invokevirtual 72, 3) := by decide +kernel
theorem dX4_hasType_14 : decode cX4_hasType 14 = .ok (.ifCond .eq 7, 3) := by decide +kernel
theorem dX4_hasType_17 : decode cX4_hasType 17 = .ok (.iconst 1, 1) := by decide +kernel
theorem dX4_hasType_18 : decode cX4_hasType 18 = .ok (.goto 4, 3) := by decide +kernel
theorem dX4_hasType_21 : decode cX4_hasType 21 = .ok (.iconst 0, 1) := by decide +kernel
theorem dX4_hasType_22 : decode cX4_hasType 22 = .ok (.ireturn, 1) := by decide +kernel
set_option maxRecDepth 20000 in
theorem ggX4_hasParameters_X4_hasType : GoodIn wsX4_hasParameters wsX4_hasType := goodIn_r _ [5, 6, 7, 8, 9, 10, 11, 12, 13, 14, 15, 16, 17, 18, 19, 20, 21, 22, 23, 24] (by decide +kernel) (by decide +kernel)
set_option maxRecDepth 20000 in
theorem gX4_hasParameters_X4_hasType : GoodIn wsX4_hasParameters (wsV RX4 76 RX4 yX4_hasType wsX4_hasType) := goodIn_app (goodIn_of _ (by decide +kernel)) ggX4_hasParameters_X4_hasType
theorem dX4_hasParameters_0 : decode cX4_hasParameters 0 = .ok (.iload_n 1, 1) := by decide +kernel
theorem dX4_hasParameters_1 : decode cX4_hasParameters 1 = .ok (.iconst (-1), 1) := by decide +kernel
theorem dX4_hasParameters_2 : decode cX4_hasParameters 2 = .ok (.if_icmp .ne 14, 3) := by decide +kernel
theorem dX4_hasParameters_5 : decode cX4_hasParameters 5 = .ok (.iload_n 2, 1) := by decide +kernel
theorem dX4_hasParameters_6 : decode cX4_hasParameters 6 = .ok (.iconst (-1), 1) := by decide +kernel
theorem dX4_hasParameters_7 : decode cX4_hasParameters 7 = .ok (.if_icmp .ne 7, 3) := by decide +kernel
theorem dX4_hasParameters_10 : decode cX4_hasParameters 10 = .ok (.iconst 1, 1) := by decide +kernel
theorem dX4_hasParameters_11 : decode cX4_hasParameters 11 = .ok (.goto 4, 3) := by decide +kernel
theorem dX4_hasParameters_14 : decode cX4_hasParameters 14 = .ok (.iconst 0, 1) := by decide +kernel
theorem dX4_hasParameters_15 : decode cX4_hasParameters 15 = .ok (.ireturn, 1) := by decide +kernel
theorem dX4_hasParameters_16 : decode cX4_hasParameters 16 = .ok (.aload_n 0, 1) := by decide +kernel
theorem dX4_hasParameters_17 : decode cX4_hasParameters 17 = .ok (.iload_n 1, 1) := by decide +kernel
theorem dX4_hasParameters_18 : decode cX4_hasParameters 18 = .ok (.invokevirtual 76, 3) := by decide +kernel
theorem dX4_hasParameters_21 : decode cX4_hasParameters 21 = .ok (.ifCond .eq 20, 3) := by decide +kernel
theorem dX4_hasParameters_24 : decode cX4_hasParameters 24 = .ok (.iload_n 2, 1) := by decide +kernel
theorem dX4_hasParameters_25 : decode cX4_hasParameters 25 = .ok (.iconst (-1), 1) := by decide +kernel
theorem dX4_hasParameters_26 : decode cX4_hasParameters 26 = .ok (.if_icmp .eq 11, 3) := by decide +kernel
theorem dX4_hasParameters_29 : decode cX4_hasParameters 29 = .ok (.aload_n 0, 1) := by decide +kernel
theorem dX4_hasParameters_30 : decode cX4_hasParameters 30 = .ok (.iload_n 2, 1) := by decide +kernel
theorem dX4_hasParameters_31 : decode cX4_hasParameters 31 = .ok (.invokevirtual 76, 3) := by decide +kernel
theorem dX4_hasParameters_34 : decode cX4_hasParameters 34 = .ok (.ifCond .eq 7, 3) := by decide +kernel
theorem dX4_hasParameters_37 : decode cX4_hasParameters 37 = .ok (.iconst 1, 1) := by decide +kernel
theorem dX4_hasParameters_38 : decode cX4_hasParameters 38 = .ok (.goto 4, 3) := by decide +kernel
theorem dX4_hasParameters_41 : decode cX4_hasParameters 41 = .ok (.iconst 0, 1) := by decide +kernel
theorem dX4_hasParameters_42 : decode cX4_hasParameters 42 = .ok (.ireturn, 1) := by decide +kernel
set_option maxRecDepth 20000 in
theorem ggX4_resultMethod_X5_at : GoodIn wsX4_resultMethod wsX5_at := goodIn_r _ [7, 8, 24] (by decide +kernel) (by decide +kernel)
set_option maxRecDepth 20000 in
theorem gX4_resultMethod_X5_at : GoodIn wsX4_resultMethod (wsV RX4 79 RX5 yX5_at wsX5_at) := goodIn_app (goodIn_of _ (by decide +kernel)) ggX4_resultMethod_X5_at
set_option maxRecDepth 20000 in
theorem ggX4_resultMethod_X1_method : GoodIn wsX4_resultMethod wsX1_method := goodIn_r _ [13, 14, 15, 4, 5, 6, 7, 8, 25, 26, 27, 28, 29, 30, 31, 24] (by decide +kernel) (by decide +kernel)
set_option maxRecDepth 20000 in
theorem gX4_resultMethod_X1_method : GoodIn wsX4_resultMethod (wsV RX4 83 RX1 yX1_method wsX1_method) := goodIn_app (goodIn_of _ (by decide +kernel)) ggX4_resultMethod_X1_method
theorem dX4_resultMethod_0 : decode cX4_resultMethod 0 = .ok (.aload_n 0, 1) := by decide +kernel
theorem dX4_resultMethod_1 : decode cX4_resultMethod 1 = .ok (.getfield 43, 3) := by decide +kernel
theorem dX4_resultMethod_4 : decode cX4_resultMethod 4 = .ok (.aload_n 0, 1) := by decide +kernel
theorem dX4_resultMethod_5 : decode cX4_resultMethod 5 = .ok (.getfield 50, 3) := by decide +kernel
theorem dX4_resultMethod_8 : decode cX4_resultMethod 8 = .ok (.iload_n 1, 1) := by decide +kernel
theorem dX4_resultMethod_9 : decode cX4_resultMethod 9 = .ok (.invokevirtual 79, 3) := by decide +kernel
theorem dX4_resultMethod_12 : decode cX4_resultMethod 12 = .ok (.invokevirtual 83, 3) := by decide +kernel
theorem dX4_resultMethod_15 : decode cX4_resultMethod 15 = .ok (.ireturn, 1) := by decide +kernel
set_option maxRecDepth 20000 in
theorem ggX4_whereThere_X4_conditions : GoodIn wsX4_whereThere wsX4_conditions := goodIn_r _ [10, 1, 11, 4, 5, 12, 46, 47, 48, 49, 50, 51, 52, 53, 54, 55, 56, 57, 58, 59, 60] (by decide +kernel) (by decide +kernel)
set_option maxRecDepth 20000 in
theorem gX4_whereThere_X4_conditions : GoodIn wsX4_whereThere (wsV RX4 68 RX4 yX4_conditions wsX4_conditions) := goodIn_app (goodIn_of _ (by decide +kernel)) ggX4_whereThere_X4_conditions
set_option maxRecDepth 20000 in
theorem ggX4_whereThere_X0_whereTrue : GoodIn wsX4_whereThere wsX0_whereTrue := goodIn_r _ [17, 18, 19, 20, 21, 22, 23, 24, 61, 62, 63, 64, 65] (by decide +kernel) (by decide +kernel)
set_option maxRecDepth 20000 in
theorem gX4_whereThere_X0_whereTrue : GoodIn wsX4_whereThere (wsV RX4 86 RX0 yX0_whereTrue wsX0_whereTrue) := goodIn_app (goodIn_of _ (by decide +kernel)) ggX4_whereThere_X0_whereTrue
set_option maxRecDepth 20000 in
theorem ggX4_whereThere_X5_at : GoodIn wsX4_whereThere wsX5_at := goodIn_r _ [23, 24, 65] (by decide +kernel) (by decide +kernel)
set_option maxRecDepth 20000 in
theorem gX4_whereThere_X5_at : GoodIn wsX4_whereThere (wsV RX4 79 RX5 yX5_at wsX5_at) := goodIn_app (goodIn_of _ (by decide +kernel)) ggX4_whereThere_X5_at
set_option maxRecDepth 20000 in
theorem ggX4_whereThere_X3_owner : GoodIn wsX4_whereThere wsX3_owner := goodIn_r _ [30, 31, 32, 20, 21, 22, 23, 24, 54, 55, 56, 57, 58, 59, 60, 65] (by decide +kernel) (by decide +kernel)
set_option maxRecDepth 20000 in
theorem gX4_whereThere_X3_owner : GoodIn wsX4_whereThere (wsV RX4 89 RX3 yX3_owner wsX3_owner) := goodIn_app (goodIn_of _ (by decide +kernel)) ggX4_whereThere_X3_owner
set_option maxRecDepth 20000 in
theorem ggX4_whereThere_X4_resultMethod : GoodIn wsX4_whereThere wsX4_resultMethod := goodIn_r _ [36, 37, 38, 25, 20, 21, 22, 23, 24, 39, 40, 41, 42, 43, 44, 45, 46, 47, 48, 49, 50, 51, 52, 53, 65, 66, 67, 68, 69, 70, 71, 72] (by decide +kernel) (by decide +kernel)
set_option maxRecDepth 20000 in
theorem gX4_whereThere_X4_resultMethod : GoodIn wsX4_whereThere (wsV RX4 92 RX4 yX4_resultMethod wsX4_resultMethod) := goodIn_app (goodIn_of _ (by decide +kernel)) ggX4_whereThere_X4_resultMethod
theorem dX4_whereThere_0 : decode cX4_whereThere 0 = .ok (.aload_n 0, 1) := by decide +kernel
theorem dX4_whereThere_1 : decode cX4_whereThere 1 = .ok (.iload_n 1, 1) := by decide +kernel
theorem dX4_whereThere_2 : decode cX4_whereThere 2 = .ok (.invokevirtual 68, 3) := by decide +kernel
theorem dX4_whereThere_5 : decode cX4_whereThere 5 = .ok (.iload_n 2, 1) := by decide +kernel
theorem dX4_whereThere_6 : decode cX4_whereThere 6 = .ok (.invokevirtual 86, 3) := by decide +kernel
theorem dX4_whereThere_9 : decode cX4_whereThere 9 = .ok (.istore_n 3, 1) := by decide +kernel
theorem dX4_whereThere_10 : decode cX4_whereThere 10 = .ok (.iload_n 1, 1) := by decide +kernel
theorem dX4_whereThere_11 : decode cX4_whereThere 11 = .ok (.iconst 1, 1) := by decide +kernel
theorem dX4_whereThere_12 : decode cX4_whereThere 12 = .ok (.if_icmp .ne 37, 3) := by decide +kernel
theorem dX4_whereThere_15 : decode cX4_whereThere 15 = .ok (.iload_n 3, 1) := by decide +kernel
theorem dX4_whereThere_16 : decode cX4_whereThere 16 = .ok (.aload_n 0, 1) := by decide +kernel
theorem dX4_whereThere_17 : decode cX4_whereThere 17 = .ok (.getfield 14, 3) := by decide +kernel
theorem dX4_whereThere_20 : decode cX4_whereThere 20 = .ok (.aload_n 0, 1) := by decide +kernel
theorem dX4_whereThere_21 : decode cX4_whereThere 21 = .ok (.getfield 26, 3) := by decide +kernel
theorem dX4_whereThere_24 : decode cX4_whereThere 24 = .ok (.iload_n 2, 1) := by decide +kernel
theorem dX4_whereThere_25 : decode cX4_whereThere 25 = .ok (.invokevirtual 79, 3) := by decide +kernel
theorem dX4_whereThere_28 : decode cX4_whereThere 28 = .ok (.invokevirtual 86, 3) := by decide +kernel
theorem dX4_whereThere_31 : decode cX4_whereThere 31 = .ok (.iand, 1) := by decide +kernel
theorem dX4_whereThere_32 : decode cX4_whereThere 32 = .ok (.aload_n 0, 1) := by decide +kernel
theorem dX4_whereThere_33 : decode cX4_whereThere 33 = .ok (.getfield 14, 3) := by decide +kernel
theorem dX4_whereThere_36 : decode cX4_whereThere 36 = .ok (.aload_n 0, 1) := by decide +kernel
theorem dX4_whereThere_37 : decode cX4_whereThere 37 = .ok (.getfield 30, 3) := by decide +kernel
theorem dX4_whereThere_40 : decode cX4_whereThere 40 = .ok (.iload_n 2, 1) := by decide +kernel
theorem dX4_whereThere_41 : decode cX4_whereThere 41 = .ok (.invokevirtual 79, 3) := by decide +kernel
theorem dX4_whereThere_44 : decode cX4_whereThere 44 = .ok (.invokevirtual 86, 3) := by decide +kernel
theorem dX4_whereThere_47 : decode cX4_whereThere 47 = .ok (.iand, 1) := by decide +kernel
theorem dX4_whereThere_48 : decode cX4_whereThere 48 = .ok (.ireturn, 1) := by decide +kernel
theorem dX4_whereThere_49 : decode cX4_whereThere 49 = .ok (.iload_n 1, 1) := by decide +kernel
theorem dX4_whereThere_50 : decode cX4_whereThere 50 = .ok (.iconst 2, 1) := by decide +kernel
theorem dX4_whereThere_51 : decode cX4_whereThere 51 = .ok (.if_icmp .ne 21, 3) := by decide +kernel
theorem dX4_whereThere_54 : decode cX4_whereThere 54 = .ok (.iload_n 3, 1) := by decide +kernel
theorem dX4_whereThere_55 : decode cX4_whereThere 55 = .ok (.aload_n 0, 1) := by decide +kernel
theorem dX4_whereThere_56 : decode cX4_whereThere 56 = .ok (.getfield 14, 3) := by decide +kernel
theorem dX4_whereThere_59 : decode cX4_whereThere 59 = .ok (.aload_n 0, 1) := by decide +kernel
theorem dX4_whereThere_60 : decode cX4_whereThere 60 = .ok (.getfield 36, 3) := by decide +kernel
theorem dX4_whereThere_63 : decode cX4_whereThere 63 = .ok (.iload_n 2, 1) := by decide +kernel
theorem dX4_whereThere_64 : decode cX4_whereThere 64 = .ok (.invokevirtual 89, 3) := by decide +kernel
theorem dX4_whereThere_67 : decode cX4_whereThere 67 = .ok (.invokevirtual 86, 3) := by decide +kernel
theorem dX4_whereThere_70 : decode cX4_whereThere 70 = .ok (.iand, 1) := by decide +kernel
theorem dX4_whereThere_71 : decode cX4_whereThere 71 = .ok (.ireturn, 1) := by decide +kernel
theorem dX4_whereThere_72 : decode cX4_whereThere 72 = .ok (.iload_n 1, 1) := by decide +kernel
theorem dX4_whereThere_73 : decode cX4_whereThere 73 = .ok (.iconst 3, 1) := by decide +kernel
theorem dX4_whereThere_74 : decode cX4_whereThere 74 = .ok (.if_icmp .ne 42, 3) := by decide +kernel
theorem dX4_whereThere_77 : decode cX4_whereThere 77 = .ok (.aload_n 0, 1) := by decide +kernel
theorem dX4_whereThere_78 : decode cX4_whereThere 78 = .ok (.iload_n 2, 1) := by decide +kernel
theorem dX4_whereThere_79 : decode cX4_whereThere 79 = .ok (.invokevirtual 92, 3) := by decide +kernel
theorem dX4_whereThere_82 : decode cX4_whereThere 82 = .ok (.istore 4, 2) := by decide +kernel
theorem dX4_whereThere_84 : decode cX4_whereThere 84 = .ok (.iload_n 3, 1) := by decide +kernel
theorem dX4_whereThere_85 : decode cX4_whereThere 85 = .ok (.aload_n 0, 1) := by decide +kernel
theorem dX4_whereThere_86 : decode cX4_whereThere 86 = .ok (.getfield 36, 3) := by decide +kernel
theorem dX4_whereThere_89 : decode cX4_whereThere 89 = .ok (.getfield 61, 3) := by decide +kernel
theorem dX4_whereThere_92 : decode cX4_whereThere 92 = .ok (.iload 4, 2) := by decide +kernel
theorem dX4_whereThere_94 : decode cX4_whereThere 94 = .ok (.invokevirtual 86, 3) := by decide +kernel
theorem dX4_whereThere_97 : decode cX4_whereThere 97 = .ok (.iand, 1) := by decide +kernel
theorem dX4_whereThere_98 : decode cX4_whereThere 98 = .ok (.aload_n 0, 1) := by decide +kernel
theorem dX4_whereThere_99 : decode cX4_whereThere 99 = .ok (.getfield 14, 3) := by decide +kernel
theorem dX4_whereThere_102 : decode cX4_whereThere 102 = .ok (.aload_n 0, 1) := by decide +kernel
theorem dX4_whereThere_103 : decode cX4_whereThere 103 = .ok (.getfield 36, 3) := by decide +kernel
theorem dX4_whereThere_106 : decode cX4_whereThere 106 = .ok (.iload 4, 2) := by decide +kernel
theorem dX4_whereThere_108 : decode cX4_whereThere 108 = .ok (.invokevirtual 89, 3) := by decide +kernel
theorem dX4_whereThere_111 : decode cX4_whereThere 111 = .ok (.invokevirtual 86, 3) := by decide +kernel
theorem dX4_whereThere_114 : decode cX4_whereThere 114 = .ok (.iand, 1) := by decide +kernel
theorem dX4_whereThere_115 : decode cX4_whereThere 115 = .ok (.ireturn, 1) := by decide +kernel
theorem dX4_whereThere_116 : decode cX4_whereThere 116 = .ok (.iload_n 3, 1) := by decide +kernel
theorem dX4_whereThere_117 : decode cX4_whereThere 117 = .ok (.ireturn, 1) := by decide +kernel
theorem dX5_init_0 : decode cX5_init 0 = .ok (.aload_n 0, 1) := by decide +kernel
theorem dX5_init_1 : decode cX5_init 1 = .ok (.invokespecial 3, 3) := by decide +kernel
theorem dX5_init_4 : decode cX5_init 4 = .ok (.aload_n 0, 1) := by decide +kernel
theorem dX5_init_5 : decode cX5_init 5 = .ok (.iload_n 1, 1) := by decide +kernel
theorem dX5_init_6 : decode cX5_init 6 = .ok (.ifCond .ge 7, 3) := by decide +kernel
theorem dX5_init_9 : decode cX5_init 9 = .ok (.iconst 0, 1) := by decide +kernel
theorem dX5_init_10 : decode cX5_init 10 = .ok (.goto 4, 3) := by decide +kernel
theorem dX5_init_13 : decode cX5_init 13 = .ok (.iload_n 1, 1) := by decide +kernel
theorem dX5_init_14 : decode cX5_init 14 = .ok (.newarray .int, 2) := by decide +kernel
theorem dX5_init_16 : decode cX5_init 16 = .ok (.putfield 9, 3) := by decide +kernel
theorem dX5_init_19 : decode cX5_init 19 = .ok (.return_, 1) := by decide +kernel
theorem dX5_at_0 : decode cX5_at 0 = .ok (.iload_n 1, 1) := by decide +kernel
theorem dX5_at_1 : decode cX5_at 1 = .ok (.ifCond .lt 21, 3) := by decide +kernel
theorem dX5_at_4 : decode cX5_at 4 = .ok (.iload_n 1, 1) := by decide +kernel
theorem dX5_at_5 : decode cX5_at 5 = .ok (.aload_n 0, 1) := by decide +kernel
theorem dX5_at_6 : decode cX5_at 6 = .ok (.getfield 9, 3) := by decide +kernel
theorem dX5_at_9 : decode cX5_at 9 = .ok (.arraylength, 1) := by decide +kernel
theorem dX5_at_10 : decode cX5_at 10 = .ok (.if_icmp .ge 12, 3) := by decide +kernel
theorem dX5_at_13 : decode cX5_at 13 = .ok (.aload_n 0, 1) := by decide +kernel
theorem dX5_at_14 : decode cX5_at 14 = .ok (.getfield 9, 3) := by decide +kernel
theorem dX5_at_17 : decode cX5_at 17 = .ok (.iload_n 1, 1) := by decide +kernel
theorem dX5_at_18 : decode cX5_at 18 = .ok (.iaload, 1) := by decide +kernel
theorem dX5_at_19 : decode cX5_at 19 = .ok (.goto 4, 3) := by decide +kernel
theorem dX5_at_22 : decode cX5_at 22 = .ok (.iconst (-1), 1) := by decide +kernel
theorem dX5_at_23 : decode cX5_at 23 = .ok (.ireturn, 1) := by decide +kernel
theorem dX5_put_0 : decode cX5_put 0 = .ok (.iload_n 1, 1) := by decide +kernel
theorem dX5_put_1 : decode cX5_put 1 = .ok (.ifCond .lt 19, 3) := by decide +kernel
theorem dX5_put_4 : decode cX5_put 4 = .ok (.iload_n 1, 1) := by decide +kernel
theorem dX5_put_5 : decode cX5_put 5 = .ok (.aload_n 0, 1) := by decide +kernel
theorem dX5_put_6 : decode cX5_put 6 = .ok (.getfield 9, 3) := by decide +kernel
theorem dX5_put_9 : decode cX5_put 9 = .ok (.arraylength, 1) := by decide +kernel
theorem dX5_put_10 : decode cX5_put 10 = .ok (.if_icmp .ge 10, 3) := by decide +kernel
theorem dX5_put_13 : decode cX5_put 13 = .ok (.aload_n 0, 1) := by decide +kernel
theorem dX5_put_14 : decode cX5_put 14 = .ok (.getfield 9, 3) := by decide +kernel
theorem dX5_put_17 : decode cX5_put 17 = .ok (.iload_n 1, 1) := by decide +kernel
theorem dX5_put_18 : decode cX5_put 18 = .ok (.iload_n 2, 1) := by decide +kernel
theorem dX5_put_19 : decode cX5_put 19 = .ok (.iastore, 1) := by decide +kernel
theorem dX5_put_20 : decode cX5_put 20 = .ok (.return_, 1) := by decide +kernel
theorem dX5_fill_0 : decode cX5_fill 0 = .ok (.iconst 0, 1) := by decide +kernel
theorem dX5_fill_1 : decode cX5_fill 1 = .ok (.istore_n 2, 1) := by decide +kernel
theorem dX5_fill_2 : decode cX5_fill 2 = .ok (.iload_n 2, 1) := by decide +kernel
theorem dX5_fill_3 : decode cX5_fill 3 = .ok (.aload_n 0, 1) := by decide +kernel
theorem dX5_fill_4 : decode cX5_fill 4 = .ok (.getfield 9, 3) := by decide +kernel
theorem dX5_fill_7 : decode cX5_fill 7 = .ok (.arraylength, 1) := by decide +kernel
theorem dX5_fill_8 : decode cX5_fill 8 = .ok (.if_icmp .ge 16, 3) := by decide +kernel
theorem dX5_fill_11 : decode cX5_fill 11 = .ok (.aload_n 0, 1) := by decide +kernel
theorem dX5_fill_12 : decode cX5_fill 12 = .ok (.getfield 9, 3) := by decide +kernel
theorem dX5_fill_15 : decode cX5_fill 15 = .ok (.iload_n 2, 1) := by decide +kernel
theorem dX5_fill_16 : decode cX5_fill 16 = .ok (.iload_n 1, 1) := by decide +kernel
theorem dX5_fill_17 : decode cX5_fill 17 = .ok (.iastore, 1) := by decide +kernel
theorem dX5_fill_18 : decode cX5_fill 18 = .ok (.iinc 2 1, 3) := by decide +kernel
theorem dX5_fill_21 : decode cX5_fill 21 = .ok (.goto (-19), 3) := by decide +kernel
theorem dX5_fill_24 : decode cX5_fill 24 = .ok (.return_, 1) := by decide +kernel
set_option maxRecDepth 20000 in
theorem ggX6_init_X5_init : GoodIn wsX6_init wsX5_init := goodIn_r _ [13, 14, 2, 3, 15, 16, 17] (by decide +kernel) (by decide +kernel)
set_option maxRecDepth 20000 in
theorem gX6_init_X5_init : GoodIn wsX6_init (wsX5_init) := ggX6_init_X5_init
theorem dX6_init_0 : decode cX6_init 0 = .ok (.aload_n 0, 1) := by decide +kernel
theorem dX6_init_1 : decode cX6_init 1 = .ok (.invokespecial 3, 3) := by decide +kernel
theorem dX6_init_4 : decode cX6_init 4 = .ok (.aload_n 0, 1) := by decide +kernel
theorem dX6_init_5 : decode cX6_init 5 = .ok (.new 9, 3) := by decide +kernel
theorem dX6_init_8 : decode cX6_init 8 = .ok (.dup, 1) := by decide +kernel
theorem dX6_init_9 : decode cX6_init 9 = .ok (.bipush 8, 2) := by decide +kernel
theorem dX6_init_11 : decode cX6_init 11 = .ok (.invokespecial 11, 3) := by decide +kernel
theorem dX6_init_14 : decode cX6_init 14 = .ok (.putfield 14, 3) := by decide +kernel
theorem dX6_init_17 : decode cX6_init 17 = .ok (.aload_n 0, 1) := by decide +kernel
theorem dX6_init_18 : decode cX6_init 18 = .ok (.new 9, 3) := by decide +kernel
theorem dX6_init_21 : decode cX6_init 21 = .ok (.dup, 1) := by decide +kernel
theorem dX6_init_22 : decode cX6_init 22 = .ok (.bipush 8, 2) := by decide +kernel
theorem dX6_init_24 : decode cX6_init 24 = .ok (.invokespecial 11, 3) := by decide +kernel
theorem dX6_init_27 : decode cX6_init 27 = .ok (.putfield 20, 3) := by decide +kernel
theorem dX6_init_30 : decode cX6_init 30 = .ok (.aload_n 0, 1) := by decide +kernel
theorem dX6_init_31 : decode cX6_init 31 = .ok (.new 9, 3) := by decide +kernel
theorem dX6_init_34 : decode cX6_init 34 = .ok (.dup, 1) := by decide +kernel
theorem dX6_init_35 : decode cX6_init 35 = .ok (.bipush 8, 2) := by decide +kernel
theorem dX6_init_37 : decode cX6_init 37 = .ok (.invokespecial 11, 3) := by decide +kernel
theorem dX6_init_40 : decode cX6_init 40 = .ok (.putfield 23, 3) := by decide +kernel
theorem dX6_init_43 : decode cX6_init 43 = .ok (.aload_n 0, 1) := by decide +kernel
theorem dX6_init_44 : decode cX6_init 44 = .ok (.iconst 0, 1) := by decide +kernel
theorem dX6_init_45 : decode cX6_init 45 = .ok (.putfield 26, 3) := by decide +kernel
theorem dX6_init_48 : decode cX6_init 48 = .ok (.return_, 1) := by decide +kernel
theorem dX6_size_0 : decode cX6_size 0 = .ok (.aload_n 0, 1) := by decide +kernel
theorem dX6_size_1 : decode cX6_size 1 = .ok (.getfield 26, 3) := by decide +kernel
theorem dX6_size_4 : decode cX6_size 4 = .ok (.ireturn, 1) := by decide +kernel
set_option maxRecDepth 20000 in
theorem ggX6_append_X5_put : GoodIn wsX6_append wsX5_put := goodIn_r _ [9, 10, 15] (by decide +kernel) (by decide +kernel)
set_option maxRecDepth 20000 in
theorem gX6_append_X5_put : GoodIn wsX6_append (wsV RX6 30 RX5 yX5_put wsX5_put) := goodIn_app (goodIn_of _ (by decide +kernel)) ggX6_append_X5_put
theorem dX6_append_0 : decode cX6_append 0 = .ok (.aload_n 0, 1) := by decide +kernel
theorem dX6_append_1 : decode cX6_append 1 = .ok (.getfield 14, 3) := by decide +kernel
theorem dX6_append_4 : decode cX6_append 4 = .ok (.aload_n 0, 1) := by decide +kernel
theorem dX6_append_5 : decode cX6_append 5 = .ok (.getfield 26, 3) := by decide +kernel
theorem dX6_append_8 : decode cX6_append 8 = .ok (.iload_n 1, 1) := by decide +kernel
theorem dX6_append_9 : decode cX6_append 9 = .ok (.invokevirtual 30, 3) := by decide +kernel
theorem dX6_append_12 : decode cX6_append 12 = .ok (.aload_n 0, 1) := by decide +kernel
theorem dX6_append_13 : decode cX6_append 13 = .ok (.getfield 20, 3) := by decide +kernel
theorem dX6_append_16 : decode cX6_append 16 = .ok (.aload_n 0, 1) := by decide +kernel
theorem dX6_append_17 : decode cX6_append 17 = .ok (.getfield 26, 3) := by decide +kernel
theorem dX6_append_20 : decode cX6_append 20 = .ok (.iload_n 2, 1) := by decide +kernel
theorem dX6_append_21 : decode cX6_append 21 = .ok (.invokevirtual 30, 3) := by decide +kernel
theorem dX6_append_24 : decode cX6_append 24 = .ok (.aload_n 0, 1) := by decide +kernel
theorem dX6_append_25 : decode cX6_append 25 = .ok (.getfield 23, 3) := by decide +kernel
theorem dX6_append_28 : decode cX6_append 28 = .ok (.aload_n 0, 1) := by decide +kernel
theorem dX6_append_29 : decode cX6_append 29 = .ok (.getfield 26, 3) := by decide +kernel
theorem dX6_append_32 : decode cX6_append 32 = .ok (.iload_n 3, 1) := by decide +kernel
theorem dX6_append_33 : decode cX6_append 33 = .ok (.invokevirtual 30, 3) := by decide +kernel
theorem dX6_append_36 : decode cX6_append 36 = .ok (.aload_n 0, 1) := by decide +kernel
theorem dX6_append_37 : decode cX6_append 37 = .ok (.dup, 1) := by decide +kernel
theorem dX6_append_38 : decode cX6_append 38 = .ok (.getfield 26, 3) := by decide +kernel
theorem dX6_append_41 : decode cX6_append 41 = .ok (.iconst 1, 1) := by decide +kernel
theorem dX6_append_42 : decode cX6_append 42 = .ok (.iadd, 1) := by decide +kernel
theorem dX6_append_43 : decode cX6_append 43 = .ok (.putfield 26, 3) := by decide +kernel
theorem dX6_append_46 : decode cX6_append 46 = .ok (.return_, 1) := by decide +kernel
set_option maxRecDepth 20000 in
theorem ggX6_allowed_X6_areKept : GoodIn wsX6_allowed wsX6_areKept := goodIn_r _ [5, 6, 7, 8, 9, 10, 11, 12, 13, 14, 15, 16, 17, 18, 19, 20, 21, 22, 23] (by decide +kernel) (by decide +kernel)
set_option maxRecDepth 20000 in
theorem gX6_allowed_X6_areKept : GoodIn wsX6_allowed (wsV RX6 34 RX6 yX6_areKept wsX6_areKept) := goodIn_app (goodIn_of _ (by decide +kernel)) ggX6_allowed_X6_areKept
theorem dX6_allowed_0 : decode cX6_allowed 0 = .ok (.iconst 0, 1) := by decide +kernel
theorem dX6_allowed_1 : decode cX6_allowed 1 = .ok (.istore_n 1, 1) := by decide +kernel
theorem dX6_allowed_2 : decode cX6_allowed 2 = .ok (.iconst 0, 1) := by decide +kernel
theorem dX6_allowed_3 : decode cX6_allowed 3 = .ok (.istore_n 2, 1) := by decide +kernel
