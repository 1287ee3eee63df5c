set_option maxRecDepth 20000 in
theorem ggX0_init_X4_init : GoodIn wsX0_init wsX4_init := goodIn_r _ [10, 11, 2, 3, 12, 13, 14, 15, 16, 17, 22] (by decide +kernel) (by decide +kernel)
set_option maxRecDepth 20000 in
theorem gX0_init_X4_init : GoodIn wsX0_init (wsX4_init) := ggX0_init_X4_init
set_option maxRecDepth 20000 in
theorem ggX0_init_X4_fill : GoodIn wsX0_init wsX4_fill := goodIn_r _ [21, 17, 22] (by decide +kernel) (by decide +kernel)
set_option maxRecDepth 20000 in
theorem gX0_init_X4_fill : GoodIn wsX0_init (wsV RX0 20 RX4 yX4_fill wsX4_fill) := goodIn_app (goodIn_of _ (by decide +kernel)) ggX0_init_X4_fill
theorem dX0_init_0 : decode cX0_init 0 = .ok (.aload_n 0, 1) := by decide +kernel
theorem dX0_init_1 : decode cX0_init 1 = .ok (.invokespecial 3, 3) := by decide +kernel
theorem dX0_init_4 : decode cX0_init 4 = .ok (.aload_n 0, 1) := by decide +kernel
theorem dX0_init_5 : decode cX0_init 5 = .ok (.new 9, 3) := by decide +kernel
theorem dX0_init_8 : decode cX0_init 8 = .ok (.dup, 1) := by decide +kernel
theorem dX0_init_9 : decode cX0_init 9 = .ok (.bipush 16, 2) := by decide +kernel
theorem dX0_init_11 : decode cX0_init 11 = .ok (.invokespecial 11, 3) := by decide +kernel
theorem dX0_init_14 : decode cX0_init 14 = .ok (.putfield 14, 3) := by decide +kernel
theorem dX0_init_17 : decode cX0_init 17 = .ok (.aload_n 0, 1) := by decide +kernel
theorem dX0_init_18 : decode cX0_init 18 = .ok (.getfield 14, 3) := by decide +kernel
theorem dX0_init_21 : decode cX0_init 21 = .ok (.iconst (-1), 1) := by decide +kernel
theorem dX0_init_22 : decode cX0_init 22 = .ok (.invokevirtual 20, 3) := by decide +kernel
theorem dX0_init_25 : decode cX0_init 25 = .ok (.return_, 1) := by decide +kernel
set_option maxRecDepth 20000 in
theorem ggX0_replace_X4_get : GoodIn wsX0_replace wsX4_get := goodIn_r _ [6, 7, 13] (by decide +kernel) (by decide +kernel)
set_option maxRecDepth 20000 in
theorem gX0_replace_X4_get : GoodIn wsX0_replace (wsV RX0 23 RX4 yX4_get wsX4_get) := goodIn_app (goodIn_of _ (by decide +kernel)) ggX0_replace_X4_get
set_option maxRecDepth 20000 in
theorem ggX0_replace_X4_set : GoodIn wsX0_replace wsX4_set := goodIn_r _ [11, 7, 13] (by decide +kernel) (by decide +kernel)
set_option maxRecDepth 20000 in
theorem gX0_replace_X4_set : GoodIn wsX0_replace (wsV RX0 27 RX4 yX4_set wsX4_set) := goodIn_app (goodIn_of _ (by decide +kernel)) ggX0_replace_X4_set
theorem dX0_replace_0 : decode cX0_replace 0 = .ok (.iload_n 1, 1) := by decide +kernel
theorem dX0_replace_1 : decode cX0_replace 1 = .ok (.iconst 4, 1) := by decide +kernel
theorem dX0_replace_2 : decode cX0_replace 2 = .ok (.imul, 1) := by decide +kernel
theorem dX0_replace_3 : decode cX0_replace 3 = .ok (.iload_n 2, 1) := by decide +kernel
theorem dX0_replace_4 : decode cX0_replace 4 = .ok (.iadd, 1) := by decide +kernel
theorem dX0_replace_5 : decode cX0_replace 5 = .ok (.istore 4, 2) := by decide +kernel
theorem dX0_replace_7 : decode cX0_replace 7 = .ok (.aload_n 0, 1) := by decide +kernel
theorem dX0_replace_8 : decode cX0_replace 8 = .ok (.getfield 14, 3) := by decide +kernel
theorem dX0_replace_11 : decode cX0_replace 11 = .ok (.iload 4, 2) := by decide +kernel
theorem dX0_replace_13 : decode cX0_replace 13 = .ok (.invokevirtual 23, 3) := by decide +kernel
theorem dX0_replace_16 : decode cX0_replace 16 = .ok (.istore 5, 2) := by decide +kernel
theorem dX0_replace_18 : decode cX0_replace 18 = .ok (.aload_n 0, 1) := by decide +kernel
theorem dX0_replace_19 : decode cX0_replace 19 = .ok (.getfield 14, 3) := by decide +kernel
theorem dX0_replace_22 : decode cX0_replace 22 = .ok (.iload 4, 2) := by decide +kernel
theorem dX0_replace_24 : decode cX0_replace 24 = .ok (.iload_n 3, 1) := by decide +kernel
theorem dX0_replace_25 : decode cX0_replace 25 = .ok (.invokevirtual 27, 3) := by decide +kernel
theorem dX0_replace_28 : decode cX0_replace 28 = .ok (.iload 5, 2) := by decide +kernel
theorem dX0_replace_30 : decode cX0_replace 30 = .ok (.ireturn, 1) := by decide +kernel
set_option maxRecDepth 20000 in
theorem ggX0_impliedBy_X4_get : GoodIn wsX0_impliedBy wsX4_get := goodIn_r _ [6, 7, 9] (by decide +kernel) (by decide +kernel)
set_option maxRecDepth 20000 in
theorem gX0_impliedBy_X4_get : GoodIn wsX0_impliedBy (wsV RX0 23 RX4 yX4_get wsX4_get) := goodIn_app (goodIn_of _ (by decide +kernel)) ggX0_impliedBy_X4_get
theorem dX0_impliedBy_0 : decode cX0_impliedBy 0 = .ok (.iconst 0, 1) := by decide +kernel
theorem dX0_impliedBy_1 : decode cX0_impliedBy 1 = .ok (.istore_n 3, 1) := by decide +kernel
theorem dX0_impliedBy_2 : decode cX0_impliedBy 2 = .ok (.iload_n 1, 1) := by decide +kernel
theorem dX0_impliedBy_3 : decode cX0_impliedBy 3 = .ok (.ifCond .eq 7, 3) := by decide +kernel
theorem dX0_impliedBy_6 : decode cX0_impliedBy 6 = .ok (.iload_n 2, 1) := by decide +kernel
theorem dX0_impliedBy_7 : decode cX0_impliedBy 7 = .ok (.ifCond .ne 5, 3) := by decide +kernel
theorem dX0_impliedBy_10 : decode cX0_impliedBy 10 = .ok (.iload_n 3, 1) := by decide +kernel
theorem dX0_impliedBy_11 : decode cX0_impliedBy 11 = .ok (.ireturn, 1) := by decide +kernel
theorem dX0_impliedBy_12 : decode cX0_impliedBy 12 = .ok (.iconst 0, 1) := by decide +kernel
theorem dX0_impliedBy_13 : decode cX0_impliedBy 13 = .ok (.istore 4, 2) := by decide +kernel
theorem dX0_impliedBy_15 : decode cX0_impliedBy 15 = .ok (.iload 4, 2) := by decide +kernel
theorem dX0_impliedBy_17 : decode cX0_impliedBy 17 = .ok (.bipush 16, 2) := by decide +kernel
theorem dX0_impliedBy_19 : decode cX0_impliedBy 19 = .ok (.if_icmp .ge 63, 3) := by decide +kernel
theorem dX0_impliedBy_22 : decode cX0_impliedBy 22 = .ok (.aload_n 0, 1) := by decide +kernel
theorem dX0_impliedBy_23 : decode cX0_impliedBy 23 = .ok (.getfield 14, 3) := by decide +kernel
theorem dX0_impliedBy_26 : decode cX0_impliedBy 26 = .ok (.iload 4, 2) := by decide +kernel
theorem dX0_impliedBy_28 : decode cX0_impliedBy 28 = .ok (.invokevirtual 23, 3) := by decide +kernel
theorem dX0_impliedBy_31 : decode cX0_impliedBy 31 = .ok (.istore 5, 2) := by decide +kernel
theorem dX0_impliedBy_33 : decode cX0_impliedBy 33 = .ok (.iload_n 1, 1) := by decide +kernel
theorem dX0_impliedBy_34 : decode cX0_impliedBy 34 = .ok (.iload 4, 2) := by decide +kernel
theorem dX0_impliedBy_36 : decode cX0_impliedBy 36 = .ok (.iconst 4, 1) := by decide +kernel
theorem dX0_impliedBy_37 : decode cX0_impliedBy 37 = .ok (.idiv, 1) := by decide +kernel
theorem dX0_impliedBy_38 : decode cX0_impliedBy 38 = .ok (.ishr, 1) := by decide +kernel
theorem dX0_impliedBy_39 : decode cX0_impliedBy 39 = .ok (.iload_n 2, 1) := by decide +kernel
theorem dX0_impliedBy_40 : decode cX0_impliedBy 40 = .ok (.iload 4, 2) := by decide +kernel
theorem dX0_impliedBy_42 : decode cX0_impliedBy 42 = .ok (.iconst 4, 1) := by decide +kernel
theorem dX0_impliedBy_43 : decode cX0_impliedBy 43 = .ok (.irem, 1) := by decide +kernel
theorem dX0_impliedBy_44 : decode cX0_impliedBy 44 = .ok (.ishr, 1) := by decide +kernel
theorem dX0_impliedBy_45 : decode cX0_impliedBy 45 = .ok (.iand, 1) := by decide +kernel
theorem dX0_impliedBy_46 : decode cX0_impliedBy 46 = .ok (.iconst 1, 1) := by decide +kernel
theorem dX0_impliedBy_47 : decode cX0_impliedBy 47 = .ok (.iand, 1) := by decide +kernel
theorem dX0_impliedBy_48 : decode cX0_impliedBy 48 = .ok (.ifCond .eq 7, 3) := by decide +kernel
theorem dX0_impliedBy_51 : decode cX0_impliedBy 51 = .ok (.iconst 1, 1) := by decide +kernel
theorem dX0_impliedBy_52 : decode cX0_impliedBy 52 = .ok (.goto 4, 3) := by decide +kernel
theorem dX0_impliedBy_55 : decode cX0_impliedBy 55 = .ok (.iconst 0, 1) := by decide +kernel
theorem dX0_impliedBy_56 : decode cX0_impliedBy 56 = .ok (.istore 6, 2) := by decide +kernel
theorem dX0_impliedBy_58 : decode cX0_impliedBy 58 = .ok (.iload 6, 2) := by decide +kernel
theorem dX0_impliedBy_60 : decode cX0_impliedBy 60 = .ok (.ifCond .eq 16, 3) := by decide +kernel
theorem dX0_impliedBy_63 : decode cX0_impliedBy 63 = .ok (.iload 5, 2) := by decide +kernel
theorem dX0_impliedBy_65 : decode cX0_impliedBy 65 = .ok (.iconst (-1), 1) := by decide +kernel
theorem dX0_impliedBy_66 : decode cX0_impliedBy 66 = .ok (.if_icmp .eq 10, 3) := by decide +kernel
theorem dX0_impliedBy_69 : decode cX0_impliedBy 69 = .ok (.iload_n 3, 1) := by decide +kernel
theorem dX0_impliedBy_70 : decode cX0_impliedBy 70 = .ok (.iconst 1, 1) := by decide +kernel
theorem dX0_impliedBy_71 : decode cX0_impliedBy 71 = .ok (.iload 5, 2) := by decide +kernel
theorem dX0_impliedBy_73 : decode cX0_impliedBy 73 = .ok (.ishl, 1) := by decide +kernel
theorem dX0_impliedBy_74 : decode cX0_impliedBy 74 = .ok (.ior, 1) := by decide +kernel
theorem dX0_impliedBy_75 : decode cX0_impliedBy 75 = .ok (.istore_n 3, 1) := by decide +kernel
theorem dX0_impliedBy_76 : decode cX0_impliedBy 76 = .ok (.iinc 4 1, 3) := by decide +kernel
theorem dX0_impliedBy_79 : decode cX0_impliedBy 79 = .ok (.goto (-64), 3) := by decide +kernel
theorem dX0_impliedBy_82 : decode cX0_impliedBy 82 = .ok (.iload_n 3, 1) := by decide +kernel
theorem dX0_impliedBy_83 : decode cX0_impliedBy 83 = .ok (.ireturn, 1) := by decide +kernel
set_option maxRecDepth 20000 in
theorem ggX1_init_X4_init : GoodIn wsX1_init wsX4_init := goodIn_r _ [14, 15, 2, 3, 16, 17, 18, 19, 20, 21, 28] (by decide +kernel) (by decide +kernel)
set_option maxRecDepth 20000 in
theorem gX1_init_X4_init : GoodIn wsX1_init (wsX4_init) := ggX1_init_X4_init
set_option maxRecDepth 20000 in
theorem ggX1_init_X2_init : GoodIn wsX1_init wsX2_init := goodIn_r _ [23, 24, 2, 3, 25, 5, 6, 26, 27, 13, 14, 15, 16, 17, 18, 19, 20, 21, 28, 32] (by decide +kernel) (by decide +kernel)
set_option maxRecDepth 20000 in
theorem gX1_init_X2_init_n22 : GoodIn wsX1_init (wsX2_init) := ggX1_init_X2_init
theorem dX1_init_0 : decode cX1_init 0 = .ok (.aload_n 0, 1) := by decide +kernel
theorem dX1_init_1 : decode cX1_init 1 = .ok (.invokespecial 3, 3) := by decide +kernel
theorem dX1_init_4 : decode cX1_init 4 = .ok (.aload_n 0, 1) := by decide +kernel
theorem dX1_init_5 : decode cX1_init 5 = .ok (.new 9, 3) := by decide +kernel
theorem dX1_init_8 : decode cX1_init 8 = .ok (.dup, 1) := by decide +kernel
theorem dX1_init_9 : decode cX1_init 9 = .ok (.iconst 5, 1) := by decide +kernel
theorem dX1_init_10 : decode cX1_init 10 = .ok (.invokespecial 11, 3) := by decide +kernel
theorem dX1_init_13 : decode cX1_init 13 = .ok (.putfield 14, 3) := by decide +kernel
theorem dX1_init_16 : decode cX1_init 16 = .ok (.aload_n 0, 1) := by decide +kernel
theorem dX1_init_17 : decode cX1_init 17 = .ok (.new 20, 3) := by decide +kernel
theorem dX1_init_20 : decode cX1_init 20 = .ok (.dup, 1) := by decide +kernel
theorem dX1_init_21 : decode cX1_init 21 = .ok (.invokespecial 22, 3) := by decide +kernel
theorem dX1_init_24 : decode cX1_init 24 = .ok (.putfield 23, 3) := by decide +kernel
theorem dX1_init_27 : decode cX1_init 27 = .ok (.return_, 1) := by decide +kernel
set_option maxRecDepth 20000 in
theorem ggX1_add_X4_set : GoodIn wsX1_add wsX4_set := goodIn_r _ [7, 8, 12] (by decide +kernel) (by decide +kernel)
set_option maxRecDepth 20000 in
theorem gX1_add_X4_set : GoodIn wsX1_add (wsV RX1 31 RX4 yX4_set wsX4_set) := goodIn_app (goodIn_of _ (by decide +kernel)) ggX1_add_X4_set
theorem dX1_add_0 : decode cX1_add 0 = .ok (.aload_n 0, 1) := by decide +kernel
theorem dX1_add_1 : decode cX1_add 1 = .ok (.getfield 14, 3) := by decide +kernel
theorem dX1_add_4 : decode cX1_add 4 = .ok (.aload_n 0, 1) := by decide +kernel
theorem dX1_add_5 : decode cX1_add 5 = .ok (.getfield 27, 3) := by decide +kernel
theorem dX1_add_8 : decode cX1_add 8 = .ok (.iload_n 1, 1) := by decide +kernel
theorem dX1_add_9 : decode cX1_add 9 = .ok (.invokevirtual 31, 3) := by decide +kernel
theorem dX1_add_12 : decode cX1_add 12 = .ok (.aload_n 0, 1) := by decide +kernel
theorem dX1_add_13 : decode cX1_add 13 = .ok (.dup, 1) := by decide +kernel
theorem dX1_add_14 : decode cX1_add 14 = .ok (.getfield 27, 3) := by decide +kernel
theorem dX1_add_17 : decode cX1_add 17 = .ok (.iconst 1, 1) := by decide +kernel
theorem dX1_add_18 : decode cX1_add 18 = .ok (.iadd, 1) := by decide +kernel
theorem dX1_add_19 : decode cX1_add 19 = .ok (.putfield 27, 3) := by decide +kernel
theorem dX1_add_22 : decode cX1_add 22 = .ok (.aload_n 0, 1) := by decide +kernel
theorem dX1_add_23 : decode cX1_add 23 = .ok (.getfield 27, 3) := by decide +kernel
theorem dX1_add_26 : decode cX1_add 26 = .ok (.iconst 1, 1) := by decide +kernel
theorem dX1_add_27 : decode cX1_add 27 = .ok (.isub, 1) := by decide +kernel
theorem dX1_add_28 : decode cX1_add 28 = .ok (.ireturn, 1) := by decide +kernel
set_option maxRecDepth 20000 in
theorem ggX1_removeAll_X2_count : GoodIn wsX1_removeAll wsX2_count := goodIn_r _ [7, 8, 9, 10, 11, 12, 13, 14, 15, 16, 17, 18, 19, 20, 21, 33, 34] (by decide +kernel) (by decide +kernel)
set_option maxRecDepth 20000 in
theorem gX1_removeAll_X2_count : GoodIn wsX1_removeAll (wsV RX1 35 RX2 yX2_count wsX2_count) := goodIn_app (goodIn_of _ (by decide +kernel)) ggX1_removeAll_X2_count
set_option maxRecDepth 20000 in
theorem ggX1_removeAll_X2_removeAll : GoodIn wsX1_removeAll wsX2_removeAll := goodIn_r _ [25, 8, 26, 27, 28, 12, 29, 14, 33, 34] (by decide +kernel) (by decide +kernel)
set_option maxRecDepth 20000 in
theorem gX1_removeAll_X2_removeAll : GoodIn wsX1_removeAll (wsV RX1 39 RX2 yX2_removeAll wsX2_removeAll) := goodIn_app (goodIn_of _ (by decide +kernel)) ggX1_removeAll_X2_removeAll
theorem dX1_removeAll_0 : decode cX1_removeAll 0 = .ok (.aload_n 0, 1) := by decide +kernel
theorem dX1_removeAll_1 : decode cX1_removeAll 1 = .ok (.getfield 27, 3) := by decide +kernel
theorem dX1_removeAll_4 : decode cX1_removeAll 4 = .ok (.aload_n 0, 1) := by decide +kernel
theorem dX1_removeAll_5 : decode cX1_removeAll 5 = .ok (.getfield 23, 3) := by decide +kernel
theorem dX1_removeAll_8 : decode cX1_removeAll 8 = .ok (.invokevirtual 35, 3) := by decide +kernel
theorem dX1_removeAll_11 : decode cX1_removeAll 11 = .ok (.iadd, 1) := by decide +kernel
theorem dX1_removeAll_12 : decode cX1_removeAll 12 = .ok (.istore_n 1, 1) := by decide +kernel
theorem dX1_removeAll_13 : decode cX1_removeAll 13 = .ok (.aload_n 0, 1) := by decide +kernel
theorem dX1_removeAll_14 : decode cX1_removeAll 14 = .ok (.iconst 0, 1) := by decide +kernel
theorem dX1_removeAll_15 : decode cX1_removeAll 15 = .ok (.putfield 27, 3) := by decide +kernel
theorem dX1_removeAll_18 : decode cX1_removeAll 18 = .ok (.aload_n 0, 1) := by decide +kernel
theorem dX1_removeAll_19 : decode cX1_removeAll 19 = .ok (.getfield 23, 3) := by decide +kernel
theorem dX1_removeAll_22 : decode cX1_removeAll 22 = .ok (.invokevirtual 39, 3) := by decide +kernel
theorem dX1_removeAll_25 : decode cX1_removeAll 25 = .ok (.iload_n 1, 1) := by decide +kernel
theorem dX1_removeAll_26 : decode cX1_removeAll 26 = .ok (.ireturn, 1) := by decide +kernel
set_option maxRecDepth 20000 in
theorem ggX2_init_X4_init : GoodIn wsX2_init wsX4_init := goodIn_r _ [10, 11, 2, 3, 12, 13, 14, 15, 16, 17, 18] (by decide +kernel) (by decide +kernel)
set_option maxRecDepth 20000 in
theorem gX2_init_X4_init : GoodIn wsX2_init (wsX4_init) := ggX2_init_X4_init
theorem dX2_init_0 : decode cX2_init 0 = .ok (.aload_n 0, 1) := by decide +kernel
theorem dX2_init_1 : decode cX2_init 1 = .ok (.invokespecial 3, 3) := by decide +kernel
theorem dX2_init_4 : decode cX2_init 4 = .ok (.aload_n 0, 1) := by decide +kernel
theorem dX2_init_5 : decode cX2_init 5 = .ok (.new 9, 3) := by decide +kernel
theorem dX2_init_8 : decode cX2_init 8 = .ok (.dup, 1) := by decide +kernel
theorem dX2_init_9 : decode cX2_init 9 = .ok (.bipush 25, 2) := by decide +kernel
theorem dX2_init_11 : decode cX2_init 11 = .ok (.invokespecial 11, 3) := by decide +kernel
theorem dX2_init_14 : decode cX2_init 14 = .ok (.putfield 14, 3) := by decide +kernel
theorem dX2_init_17 : decode cX2_init 17 = .ok (.return_, 1) := by decide +kernel
set_option maxRecDepth 20000 in
theorem ggX2_between_X4_get : GoodIn wsX2_between wsX4_get := goodIn_r _ [6, 7, 9] (by decide +kernel) (by decide +kernel)
set_option maxRecDepth 20000 in
theorem gX2_between_X4_get : GoodIn wsX2_between (wsV RX2 20 RX4 yX4_get wsX4_get) := goodIn_app (goodIn_of _ (by decide +kernel)) ggX2_between_X4_get
theorem dX2_between_0 : decode cX2_between 0 = .ok (.aload_n 0, 1) := by decide +kernel
theorem dX2_between_1 : decode cX2_between 1 = .ok (.getfield 14, 3) := by decide +kernel
theorem dX2_between_4 : decode cX2_between 4 = .ok (.iload_n 1, 1) := by decide +kernel
theorem dX2_between_5 : decode cX2_between 5 = .ok (.iconst 5, 1) := by decide +kernel
theorem dX2_between_6 : decode cX2_between 6 = .ok (.imul, 1) := by decide +kernel
theorem dX2_between_7 : decode cX2_between 7 = .ok (.iload_n 2, 1) := by decide +kernel
theorem dX2_between_8 : decode cX2_between 8 = .ok (.iadd, 1) := by decide +kernel
theorem dX2_between_9 : decode cX2_between 9 = .ok (.invokevirtual 20, 3) := by decide +kernel
theorem dX2_between_12 : decode cX2_between 12 = .ok (.ireturn, 1) := by decide +kernel
set_option maxRecDepth 20000 in
theorem ggX2_contains_X2_between : GoodIn wsX2_contains wsX2_between := goodIn_r _ [5, 6, 7, 8, 9, 10, 11, 12, 13, 14] (by decide +kernel) (by decide +kernel)
set_option maxRecDepth 20000 in
theorem gX2_contains_X2_between : GoodIn wsX2_contains (wsV RX2 24 RX2 yX2_between wsX2_between) := goodIn_app (goodIn_of _ (by decide +kernel)) ggX2_contains_X2_between
theorem dX2_contains_0 : decode cX2_contains 0 = .ok (.aload_n 0, 1) := by decide +kernel
theorem dX2_contains_1 : decode cX2_contains 1 = .ok (.iload_n 1, 1) := by decide +kernel
theorem dX2_contains_2 : decode cX2_contains 2 = .ok (.iload_n 2, 1) := by decide +kernel
theorem dX2_contains_3 : decode cX2_contains 3 = .ok (.invokevirtual 24, 3) := by decide +kernel
theorem dX2_contains_6 : decode cX2_contains 6 = .ok (.iload_n 3, 1) := by decide +kernel
theorem dX2_contains_7 : decode cX2_contains 7 = .ok (.ishr, 1) := by decide +kernel
theorem dX2_contains_8 : decode cX2_contains 8 = .ok (.iconst 1, 1) := by decide +kernel
theorem dX2_contains_9 : decode cX2_contains 9 = .ok (.iand, 1) := by decide +kernel
theorem dX2_contains_10 : decode cX2_contains 10 = .ok (.ifCond .eq 7, 3) := by decide +kernel
theorem dX2_contains_13 : decode cX2_contains 13 = .ok (.iconst 1, 1) := by decide +kernel
theorem dX2_contains_14 : decode cX2_contains 14 = .ok (.goto 4, 3) := by decide +kernel
theorem dX2_contains_17 : decode cX2_contains 17 = .ok (.iconst 0, 1) := by decide +kernel
theorem dX2_contains_18 : decode cX2_contains 18 = .ok (.ireturn, 1) := by decide +kernel
set_option maxRecDepth 20000 in
theorem ggX2_toggle_X2_between : GoodIn wsX2_toggle wsX2_between := goodIn_r _ [6, 1, 7, 8, 9, 10, 11, 12, 21, 22] (by decide +kernel) (by decide +kernel)
set_option maxRecDepth 20000 in
theorem gX2_toggle_X2_between : GoodIn wsX2_toggle (wsV RX2 24 RX2 yX2_between wsX2_between) := goodIn_app (goodIn_of _ (by decide +kernel)) ggX2_toggle_X2_between
set_option maxRecDepth 20000 in
theorem ggX2_toggle_X4_set : GoodIn wsX2_toggle wsX4_set := goodIn_r _ [16, 12, 22] (by decide +kernel) (by decide +kernel)
set_option maxRecDepth 20000 in
theorem gX2_toggle_X4_set : GoodIn wsX2_toggle (wsV RX2 28 RX4 yX4_set wsX4_set) := goodIn_app (goodIn_of _ (by decide +kernel)) ggX2_toggle_X4_set
set_option maxRecDepth 20000 in
theorem ggX2_toggle_X2_contains : GoodIn wsX2_toggle wsX2_contains := goodIn_r _ [20, 2, 3, 4, 5, 6, 1, 7, 8, 9, 10, 11, 12, 21, 22] (by decide +kernel) (by decide +kernel)
set_option maxRecDepth 20000 in
theorem gX2_toggle_X2_contains : GoodIn wsX2_toggle (wsV RX2 32 RX2 yX2_contains wsX2_contains) := goodIn_app (goodIn_of _ (by decide +kernel)) ggX2_toggle_X2_contains
theorem dX2_toggle_0 : decode cX2_toggle 0 = .ok (.aload_n 0, 1) := by decide +kernel
theorem dX2_toggle_1 : decode cX2_toggle 1 = .ok (.getfield 14, 3) := by decide +kernel
theorem dX2_toggle_4 : decode cX2_toggle 4 = .ok (.iload_n 1, 1) := by decide +kernel
theorem dX2_toggle_5 : decode cX2_toggle 5 = .ok (.iconst 5, 1) := by decide +kernel
theorem dX2_toggle_6 : decode cX2_toggle 6 = .ok (.imul, 1) := by decide +kernel
theorem dX2_toggle_7 : decode cX2_toggle 7 = .ok (.iload_n 2, 1) := by decide +kernel
theorem dX2_toggle_8 : decode cX2_toggle 8 = .ok (.iadd, 1) := by decide +kernel
theorem dX2_toggle_9 : decode cX2_toggle 9 = .ok (.aload_n 0, 1) := by decide +kernel
theorem dX2_toggle_10 : decode cX2_toggle 10 = .ok (.iload_n 1, 1) := by decide +kernel
theorem dX2_toggle_11 : decode cX2_toggle 11 = .ok (.iload_n 2, 1) := by decide +kernel
theorem dX2_toggle_12 : decode cX2_toggle 12 = .ok (.invokevirtual 24, 3) := by decide +kernel
theorem dX2_toggle_15 : decode cX2_toggle 15 = .ok (.iconst 1, 1) := by decide +kernel
theorem dX2_toggle_16 : decode cX2_toggle 16 = .ok (.iload_n 3, 1) := by decide +kernel
theorem dX2_toggle_17 : decode cX2_toggle 17 = .ok (.ishl, 1) := by decide +kernel
theorem dX2_toggle_18 : decode cX2_toggle 18 = .ok (.ixor, 1) := by decide +kernel
theorem dX2_toggle_19 : decode cX2_toggle 19 = .ok (.invokevirtual 28, 3) := by decide +kernel
theorem dX2_toggle_22 : decode cX2_toggle 22 = .ok (.aload_n 0, 1) := by decide +kernel
theorem dX2_toggle_23 : decode cX2_toggle 23 = .ok (.iload_n 1, 1) := by decide +kernel
theorem dX2_toggle_24 : decode cX2_toggle 24 = .ok (.iload_n 2, 1) := by decide +kernel
theorem dX2_toggle_25 : decode cX2_toggle 25 = .ok (.iload_n 3, 1) := by decide +kernel
theorem dX2_toggle_26 : decode cX2_toggle 26 = .ok (.invokevirtual 32, 3) := by decide +kernel
theorem dX2_toggle_29 : decode cX2_toggle 29 = .ok (.ireturn, 1) := by decide +kernel
set_option maxRecDepth 20000 in
theorem ggX2_add_X2_between : GoodIn wsX2_add wsX2_between := goodIn_r _ [6, 1, 7, 8, 9, 10, 11, 12, 17, 18] (by decide +kernel) (by decide +kernel)
set_option maxRecDepth 20000 in
theorem gX2_add_X2_between : GoodIn wsX2_add (wsV RX2 24 RX2 yX2_between wsX2_between) := goodIn_app (goodIn_of _ (by decide +kernel)) ggX2_add_X2_between
set_option maxRecDepth 20000 in
theorem ggX2_add_X4_set : GoodIn wsX2_add wsX4_set := goodIn_r _ [16, 12, 18] (by decide +kernel) (by decide +kernel)
set_option maxRecDepth 20000 in
theorem gX2_add_X4_set : GoodIn wsX2_add (wsV RX2 28 RX4 yX4_set wsX4_set) := goodIn_app (goodIn_of _ (by decide +kernel)) ggX2_add_X4_set
theorem dX2_add_0 : decode cX2_add 0 = .ok (.aload_n 0, 1) := by decide +kernel
theorem dX2_add_1 : decode cX2_add 1 = .ok (.iload_n 1, 1) := by decide +kernel
theorem dX2_add_2 : decode cX2_add 2 = .ok (.iload_n 2, 1) := by decide +kernel
theorem dX2_add_3 : decode cX2_add 3 = .ok (.invokevirtual 24, 3) := by decide +kernel
theorem dX2_add_6 : decode cX2_add 6 = .ok (.istore 4, 2) := by decide +kernel
theorem dX2_add_8 : decode cX2_add 8 = .ok (.aload_n 0, 1) := by decide +kernel
theorem dX2_add_9 : decode cX2_add 9 = .ok (.getfield 14, 3) := by decide +kernel
theorem dX2_add_12 : decode cX2_add 12 = .ok (.iload_n 1, 1) := by decide +kernel
theorem dX2_add_13 : decode cX2_add 13 = .ok (.iconst 5, 1) := by decide +kernel
theorem dX2_add_14 : decode cX2_add 14 = .ok (.imul, 1) := by decide +kernel
theorem dX2_add_15 : decode cX2_add 15 = .ok (.iload_n 2, 1) := by decide +kernel
theorem dX2_add_16 : decode cX2_add 16 = .ok (.iadd, 1) := by decide +kernel
theorem dX2_add_17 : decode cX2_add 17 = .ok (.iload 4, 2) := by decide +kernel
theorem dX2_add_19 : decode cX2_add 19 = .ok (.iload_n 3, 1) := by decide +kernel
theorem dX2_add_20 : decode cX2_add 20 = .ok (.ior, 1) := by decide +kernel
theorem dX2_add_21 : decode cX2_add 21 = .ok (.invokevirtual 28, 3) := by decide +kernel
theorem dX2_add_24 : decode cX2_add 24 = .ok (.iload_n 3, 1) := by decide +kernel
theorem dX2_add_25 : decode cX2_add 25 = .ok (.iload 4, 2) := by decide +kernel
theorem dX2_add_27 : decode cX2_add 27 = .ok (.iconst (-1), 1) := by decide +kernel
theorem dX2_add_28 : decode cX2_add 28 = .ok (.ixor, 1) := by decide +kernel
theorem dX2_add_29 : decode cX2_add 29 = .ok (.iand, 1) := by decide +kernel
theorem dX2_add_30 : decode cX2_add 30 = .ok (.ifCond .eq 7, 3) := by decide +kernel
theorem dX2_add_33 : decode cX2_add 33 = .ok (.iconst 1, 1) := by decide +kernel
theorem dX2_add_34 : decode cX2_add 34 = .ok (.goto 4, 3) := by decide +kernel
theorem dX2_add_37 : decode cX2_add 37 = .ok (.iconst 0, 1) := by decide +kernel
theorem dX2_add_38 : decode cX2_add 38 = .ok (.ireturn, 1) := by decide +kernel
set_option maxRecDepth 20000 in
theorem ggX2_count_X4_get : GoodIn wsX2_count wsX4_get := goodIn_r _ [6, 7, 16] (by decide +kernel) (by decide +kernel)
set_option maxRecDepth 20000 in
theorem gX2_count_X4_get : GoodIn wsX2_count (wsV RX2 20 RX4 yX4_get wsX4_get) := goodIn_app (goodIn_of _ (by decide +kernel)) ggX2_count_X4_get
set_option maxRecDepth 20000 in
theorem ggX2_count_J6_bitCount_0f7a4 : GoodIn wsX2_count wsJ6_bitCount_0f7a4 := goodIn_r _ [11, 12, 13, 14] (by decide +kernel) (by decide +kernel)
set_option maxRecDepth 20000 in
theorem gX2_count_J6_bitCount_0f7a4 : GoodIn wsX2_count (va_wsS RX2 36 yJ6_bitCount_0f7a4 wsJ6_bitCount_0f7a4) := goodIn_app (goodIn_of _ (by decide +kernel)) ggX2_count_J6_bitCount_0f7a4
theorem dX2_count_0 : decode cX2_count 0 = .ok (.iconst 0, 1) := by decide +kernel
theorem dX2_count_1 : decode cX2_count 1 = .ok (.istore_n 1, 1) := by decide +kernel
theorem dX2_count_2 : decode cX2_count 2 = .ok (.iconst 0, 1) := by decide +kernel
theorem dX2_count_3 : decode cX2_count 3 = .ok (.istore_n 2, 1) := by decide +kernel
theorem dX2_count_4 : decode cX2_count 4 = .ok (.iload_n 2, 1) := by decide +kernel
theorem dX2_count_5 : decode cX2_count 5 = .ok (.bipush 25, 2) := by decide +kernel
theorem dX2_count_7 : decode cX2_count 7 = .ok (.if_icmp .ge 23, 3) := by decide +kernel
theorem dX2_count_10 : decode cX2_count 10 = .ok (.iload_n 1, 1) := by decide +kernel
theorem dX2_count_11 : decode cX2_count 11 = .ok (.aload_n 0, 1) := by decide +kernel
theorem dX2_count_12 : decode cX2_count 12 = .ok (.getfield 14, 3) := by decide +kernel
theorem dX2_count_15 : decode cX2_count 15 = .ok (.iload_n 2, 1) := by decide +kernel
theorem dX2_count_16 : decode cX2_count 16 = .ok (.invokevirtual 20, 3) := by decide +kernel
theorem dX2_count_19 : decode cX2_count 19 = .ok (.invokestatic 36, 3) := by decide +kernel
theorem dX2_count_22 : decode cX2_count 22 = .ok (.iadd, 1) := by decide +kernel
theorem dX2_count_23 : decode cX2_count 23 = .ok (.istore_n 1, 1) := by decide +kernel
theorem dX2_count_24 : decode cX2_count 24 = .ok (.iinc 2 1, 3) := by decide +kernel
theorem dX2_count_27 : decode cX2_count 27 = .ok (.goto (-23), 3) := by decide +kernel
theorem dX2_count_30 : decode cX2_count 30 = .ok (.iload_n 1, 1) := by decide +kernel
theorem dX2_count_31 : decode cX2_count 31 = .ok (.ireturn, 1) := by decide +kernel
set_option maxRecDepth 20000 in
theorem ggX2_removeAll_X4_fill : GoodIn wsX2_removeAll wsX4_fill := goodIn_r _ [6, 7, 9] (by decide +kernel) (by decide +kernel)
set_option maxRecDepth 20000 in
theorem gX2_removeAll_X4_fill : GoodIn wsX2_removeAll (wsV RX2 41 RX4 yX4_fill wsX4_fill) := goodIn_app (goodIn_of _ (by decide +kernel)) ggX2_removeAll_X4_fill
theorem dX2_removeAll_0 : decode cX2_removeAll 0 = .ok (.aload_n 0, 1) := by decide +kernel
theorem dX2_removeAll_1 : decode cX2_removeAll 1 = .ok (.getfield 14, 3) := by decide +kernel
theorem dX2_removeAll_4 : decode cX2_removeAll 4 = .ok (.iconst 0, 1) := by decide +kernel
theorem dX2_removeAll_5 : decode cX2_removeAll 5 = .ok (.invokevirtual 41, 3) := by decide +kernel
theorem dX2_removeAll_8 : decode cX2_removeAll 8 = .ok (.return_, 1) := by decide +kernel
set_option maxRecDepth 20000 in
theorem ggX2_become_X4_become : GoodIn wsX2_become wsX4_become := goodIn_r _ [6, 7, 8, 9, 10, 5, 11, 13] (by decide +kernel) (by decide +kernel)
set_option maxRecDepth 20000 in
theorem gX2_become_X4_become : GoodIn wsX2_become (wsV RX2 44 RX4 yX4_become wsX4_become) := goodIn_app (goodIn_of _ (by decide +kernel)) ggX2_become_X4_become
theorem dX2_become_0 : decode cX2_become 0 = .ok (.aload_n 0, 1) := by decide +kernel
theorem dX2_become_1 : decode cX2_become 1 = .ok (.getfield 14, 3) := by decide +kernel
theorem dX2_become_4 : decode cX2_become 4 = .ok (.aload_n 1, 1) := by decide +kernel
theorem dX2_become_5 : decode cX2_become 5 = .ok (.getfield 14, 3) := by decide +kernel
theorem dX2_become_8 : decode cX2_become 8 = .ok (.invokevirtual 44, 3) := by decide +kernel
theorem dX2_become_11 : decode cX2_become 11 = .ok (.return_, 1) := by decide +kernel
set_option maxRecDepth 20000 in
theorem ggX2_addAllImplied_X2_addImplied : GoodIn wsX2_addAllImplied wsX2_addImplied := goodIn_r _ [5, 6, 7, 8, 4, 9, 10, 11, 12, 13, 14, 15, 16, 17, 18, 19, 20, 21, 22, 23, 24, 25, 26, 27, 28, 29, 30, 31, 32, 33, 34] (by decide +kernel) (by decide +kernel)
set_option maxRecDepth 20000 in
theorem gX2_addAllImplied_X2_addImplied : GoodIn wsX2_addAllImplied (wsV RX2 48 RX2 yX2_addImplied wsX2_addImplied) := goodIn_app (goodIn_of _ (by decide +kernel)) ggX2_addAllImplied_X2_addImplied
theorem dX2_addAllImplied_0 : decode cX2_addAllImplied 0 = .ok (.iconst 1, 1) := by decide +kernel
theorem dX2_addAllImplied_1 : decode cX2_addAllImplied 1 = .ok (.istore_n 2, 1) := by decide +kernel
theorem dX2_addAllImplied_2 : decode cX2_addAllImplied 2 = .ok (.iconst 0, 1) := by decide +kernel
theorem dX2_addAllImplied_3 : decode cX2_addAllImplied 3 = .ok (.istore_n 3, 1) := by decide +kernel
theorem dX2_addAllImplied_4 : decode cX2_addAllImplied 4 = .ok (.iload_n 2, 1) := by decide +kernel
theorem dX2_addAllImplied_5 : decode cX2_addAllImplied 5 = .ok (.ifCond .eq 21, 3) := by decide +kernel
theorem dX2_addAllImplied_8 : decode cX2_addAllImplied 8 = .ok (.iload_n 3, 1) := by decide +kernel
theorem dX2_addAllImplied_9 : decode cX2_addAllImplied 9 = .ok (.bipush 100, 2) := by decide +kernel
theorem dX2_addAllImplied_11 : decode cX2_addAllImplied 11 = .ok (.if_icmp .gt 15, 3) := by decide +kernel
theorem dX2_addAllImplied_14 : decode cX2_addAllImplied 14 = .ok (.aload_n 0, 1) := by decide +kernel
theorem dX2_addAllImplied_15 : decode cX2_addAllImplied 15 = .ok (.aload_n 1, 1) := by decide +kernel
theorem dX2_addAllImplied_16 : decode cX2_addAllImplied 16 = .ok (.invokevirtual 48, 3) := by decide +kernel
theorem dX2_addAllImplied_19 : decode cX2_addAllImplied 19 = .ok (.istore_n 2, 1) := by decide +kernel
theorem dX2_addAllImplied_20 : decode cX2_addAllImplied 20 = .ok (.iinc 3 1, 3) := by decide +kernel
theorem dX2_addAllImplied_23 : decode cX2_addAllImplied 23 = .ok (.goto (-19), 3) := by decide +kernel
theorem dX2_addAllImplied_26 : decode cX2_addAllImplied 26 = .ok (.return_, 1) := by decide +kernel
set_option maxRecDepth 20000 in
theorem ggX2_addImplied_X2_between : GoodIn wsX2_addImplied wsX2_between := goodIn_r _ [5, 6, 7, 8, 9, 10, 11, 12, 28, 29] (by decide +kernel) (by decide +kernel)
set_option maxRecDepth 20000 in
theorem gX2_addImplied_X2_between : GoodIn wsX2_addImplied (wsV RX2 24 RX2 yX2_between wsX2_between) := goodIn_app (goodIn_of _ (by decide +kernel)) ggX2_addImplied_X2_between
set_option maxRecDepth 20000 in
theorem ggX2_addImplied_X0_impliedBy : GoodIn wsX2_addImplied wsX0_impliedBy := goodIn_r _ [17, 18, 19, 8, 9, 10, 11, 12, 30, 29] (by decide +kernel) (by decide +kernel)
set_option maxRecDepth 20000 in
theorem gX2_addImplied_X0_impliedBy : GoodIn wsX2_addImplied (wsV RX2 52 RX0 yX0_impliedBy wsX0_impliedBy) := goodIn_app (goodIn_of _ (by decide +kernel)) ggX2_addImplied_X0_impliedBy
set_option maxRecDepth 20000 in
theorem ggX2_addImplied_X2_add : GoodIn wsX2_addImplied wsX2_add := goodIn_r _ [23, 6, 1, 2, 3, 4, 5, 7, 8, 9, 10, 11, 12, 24, 25, 26, 27, 28, 29] (by decide +kernel) (by decide +kernel)
set_option maxRecDepth 20000 in
theorem gX2_addImplied_X2_add : GoodIn wsX2_addImplied (wsV RX2 57 RX2 yX2_add wsX2_add) := goodIn_app (goodIn_of _ (by decide +kernel)) ggX2_addImplied_X2_add
theorem dX2_addImplied_0 : decode cX2_addImplied 0 = .ok (.iconst 0, 1) := by decide +kernel
theorem dX2_addImplied_1 : decode cX2_addImplied 1 = .ok (.istore_n 2, 1) := by decide +kernel
theorem dX2_addImplied_2 : decode cX2_addImplied 2 = .ok (.iconst 0, 1) := by decide +kernel
theorem dX2_addImplied_3 : decode cX2_addImplied 3 = .ok (.istore_n 3, 1) := by decide +kernel
theorem dX2_addImplied_4 : decode cX2_addImplied 4 = .ok (.iload_n 3, 1) := by decide +kernel
theorem dX2_addImplied_5 : decode cX2_addImplied 5 = .ok (.iconst 5, 1) := by decide +kernel
theorem dX2_addImplied_6 : decode cX2_addImplied 6 = .ok (.if_icmp .ge 91, 3) := by decide +kernel
theorem dX2_addImplied_9 : decode cX2_addImplied 9 = .ok (.iconst 0, 1) := by decide +kernel
theorem dX2_addImplied_10 : decode cX2_addImplied 10 = .ok (.istore 4, 2) := by decide +kernel
theorem dX2_addImplied_12 : decode cX2_addImplied 12 = .ok (.iload 4, 2) := by decide +kernel
theorem dX2_addImplied_14 : decode cX2_addImplied 14 = .ok (.iconst 5, 1) := by decide +kernel
theorem dX2_addImplied_15 : decode cX2_addImplied 15 = .ok (.if_icmp .ge 76, 3) := by decide +kernel
theorem dX2_addImplied_18 : decode cX2_addImplied 18 = .ok (.iconst 0, 1) := by decide +kernel
theorem dX2_addImplied_19 : decode cX2_addImplied 19 = .ok (.istore 5, 2) := by decide +kernel
theorem dX2_addImplied_21 : decode cX2_addImplied 21 = .ok (.iload 5, 2) := by decide +kernel
theorem dX2_addImplied_23 : decode cX2_addImplied 23 = .ok (.iconst 5, 1) := by decide +kernel
theorem dX2_addImplied_24 : decode cX2_addImplied 24 = .ok (.if_icmp .ge 61, 3) := by decide +kernel
theorem dX2_addImplied_27 : decode cX2_addImplied 27 = .ok (.iload 4, 2) := by decide +kernel
theorem dX2_addImplied_29 : decode cX2_addImplied 29 = .ok (.iload_n 3, 1) := by decide +kernel
theorem dX2_addImplied_30 : decode cX2_addImplied 30 = .ok (.if_icmp .eq 49, 3) := by decide +kernel
theorem dX2_addImplied_33 : decode cX2_addImplied 33 = .ok (.iload 5, 2) := by decide +kernel
theorem dX2_addImplied_35 : decode cX2_addImplied 35 = .ok (.iload_n 3, 1) := by decide +kernel
theorem dX2_addImplied_36 : decode cX2_addImplied 36 = .ok (.if_icmp .eq 43, 3) := by decide +kernel
theorem dX2_addImplied_39 : decode cX2_addImplied 39 = .ok (.iload 4, 2) := by decide +kernel
theorem dX2_addImplied_41 : decode cX2_addImplied 41 = .ok (.iload 5, 2) := by decide +kernel
theorem dX2_addImplied_43 : decode cX2_addImplied 43 = .ok (.if_icmp .eq 36, 3) := by decide +kernel
theorem dX2_addImplied_46 : decode cX2_addImplied 46 = .ok (.aload_n 1, 1) := by decide +kernel
theorem dX2_addImplied_47 : decode cX2_addImplied 47 = .ok (.aload_n 0, 1) := by decide +kernel
theorem dX2_addImplied_48 : decode cX2_addImplied 48 = .ok (.iload 4, 2) := by decide +kernel
theorem dX2_addImplied_50 : decode cX2_addImplied 50 = .ok (.iload_n 3, 1) := by decide +kernel
theorem dX2_addImplied_51 : decode cX2_addImplied 51 = .ok (.invokevirtual 24, 3) := by decide +kernel
theorem dX2_addImplied_54 : decode cX2_addImplied 54 = .ok (.aload_n 0, 1) := by decide +kernel
theorem dX2_addImplied_55 : decode cX2_addImplied 55 = .ok (.iload_n 3, 1) := by decide +kernel
theorem dX2_addImplied_56 : decode cX2_addImplied 56 = .ok (.iload 5, 2) := by decide +kernel
theorem dX2_addImplied_58 : decode cX2_addImplied 58 = .ok (.invokevirtual 24, 3) := by decide +kernel
theorem dX2_addImplied_61 : decode cX2_addImplied 61 = .ok (.invokevirtual 52, 3) := by decide +kernel
theorem dX2_addImplied_64 : decode cX2_addImplied 64 = .ok (.istore 6, 2) := by decide +kernel
theorem dX2_addImplied_66 : decode cX2_addImplied 66 = .ok (.iload_n 2, 1) := by decide +kernel
theorem dX2_addImplied_67 : decode cX2_addImplied 67 = .ok (.aload_n 0, 1) := by decide +kernel
theorem dX2_addImplied_68 : decode cX2_addImplied 68 = .ok (.iload 4, 2) := by decide +kernel
theorem dX2_addImplied_70 : decode cX2_addImplied 70 = .ok (.iload 5, 2) := by decide +kernel
theorem dX2_addImplied_72 : decode cX2_addImplied 72 = .ok (.iload 6, 2) := by decide +kernel
theorem dX2_addImplied_74 : decode cX2_addImplied 74 = .ok (.invokevirtual 57, 3) := by decide +kernel
theorem dX2_addImplied_77 : decode cX2_addImplied 77 = .ok (.ior, 1) := by decide +kernel
theorem dX2_addImplied_78 : decode cX2_addImplied 78 = .ok (.istore_n 2, 1) := by decide +kernel
theorem dX2_addImplied_79 : decode cX2_addImplied 79 = .ok (.iinc 5 1, 3) := by decide +kernel
theorem dX2_addImplied_82 : decode cX2_addImplied 82 = .ok (.goto (-61), 3) := by decide +kernel
theorem dX2_addImplied_85 : decode cX2_addImplied 85 = .ok (.iinc 4 1, 3) := by decide +kernel
theorem dX2_addImplied_88 : decode cX2_addImplied 88 = .ok (.goto (-76), 3) := by decide +kernel
theorem dX2_addImplied_91 : decode cX2_addImplied 91 = .ok (.iinc 3 1, 3) := by decide +kernel
theorem dX2_addImplied_94 : decode cX2_addImplied 94 = .ok (.goto (-90), 3) := by decide +kernel
theorem dX2_addImplied_97 : decode cX2_addImplied 97 = .ok (.iload_n 2, 1) := by decide +kernel
theorem dX2_addImplied_98 : decode cX2_addImplied 98 = .ok (.ireturn, 1) := by decide +kernel
set_option maxRecDepth 20000 in
theorem ggX3_init_X4_init : GoodIn wsX3_init wsX4_init := goodIn_r _ [14, 15, 2, 3, 16, 17, 18, 19, 20, 21, 22] (by decide +kernel) (by decide +kernel)
set_option maxRecDepth 20000 in
theorem gX3_init_X4_init : GoodIn wsX3_init (wsX4_init) := ggX3_init_X4_init
theorem dX3_init_0 : decode cX3_init 0 = .ok (.aload_n 0, 1) := by decide +kernel
theorem dX3_init_1 : decode cX3_init 1 = .ok (.invokespecial 3, 3) := by decide +kernel
theorem dX3_init_4 : decode cX3_init 4 = .ok (.aload_n 0, 1) := by decide +kernel
theorem dX3_init_5 : decode cX3_init 5 = .ok (.new 9, 3) := by decide +kernel
theorem dX3_init_8 : decode cX3_init 8 = .ok (.dup, 1) := by decide +kernel
theorem dX3_init_9 : decode cX3_init 9 = .ok (.iconst 5, 1) := by decide +kernel
theorem dX3_init_10 : decode cX3_init 10 = .ok (.invokespecial 11, 3) := by decide +kernel
theorem dX3_init_13 : decode cX3_init 13 = .ok (.putfield 14, 3) := by decide +kernel
theorem dX3_init_16 : decode cX3_init 16 = .ok (.aload_n 0, 1) := by decide +kernel
theorem dX3_init_17 : decode cX3_init 17 = .ok (.new 9, 3) := by decide +kernel
theorem dX3_init_20 : decode cX3_init 20 = .ok (.dup, 1) := by decide +kernel
theorem dX3_init_21 : decode cX3_init 21 = .ok (.sipush 625, 3) := by decide +kernel
theorem dX3_init_24 : decode cX3_init 24 = .ok (.invokespecial 11, 3) := by decide +kernel
theorem dX3_init_27 : decode cX3_init 27 = .ok (.putfield 20, 3) := by decide +kernel
theorem dX3_init_30 : decode cX3_init 30 = .ok (.aload_n 0, 1) := by decide +kernel
theorem dX3_init_31 : decode cX3_init 31 = .ok (.new 9, 3) := by decide +kernel
theorem dX3_init_34 : decode cX3_init 34 = .ok (.dup, 1) := by decide +kernel
theorem dX3_init_35 : decode cX3_init 35 = .ok (.bipush 6, 2) := by decide +kernel
theorem dX3_init_37 : decode cX3_init 37 = .ok (.invokespecial 11, 3) := by decide +kernel
theorem dX3_init_40 : decode cX3_init 40 = .ok (.putfield 23, 3) := by decide +kernel
theorem dX3_init_43 : decode cX3_init 43 = .ok (.aload_n 0, 1) := by decide +kernel
theorem dX3_init_44 : decode cX3_init 44 = .ok (.new 9, 3) := by decide +kernel
theorem dX3_init_47 : decode cX3_init 47 = .ok (.dup, 1) := by decide +kernel
theorem dX3_init_48 : decode cX3_init 48 = .ok (.iconst 5, 1) := by decide +kernel
theorem dX3_init_49 : decode cX3_init 49 = .ok (.invokespecial 11, 3) := by decide +kernel
theorem dX3_init_52 : decode cX3_init 52 = .ok (.putfield 26, 3) := by decide +kernel
theorem dX3_init_55 : decode cX3_init 55 = .ok (.aload_n 0, 1) := by decide +kernel
theorem dX3_init_56 : decode cX3_init 56 = .ok (.new 9, 3) := by decide +kernel
theorem dX3_init_59 : decode cX3_init 59 = .ok (.dup, 1) := by decide +kernel
theorem dX3_init_60 : decode cX3_init 60 = .ok (.iconst 5, 1) := by decide +kernel
theorem dX3_init_61 : decode cX3_init 61 = .ok (.invokespecial 11, 3) := by decide +kernel
theorem dX3_init_64 : decode cX3_init 64 = .ok (.putfield 29, 3) := by decide +kernel
theorem dX3_init_67 : decode cX3_init 67 = .ok (.return_, 1) := by decide +kernel
set_option maxRecDepth 20000 in
theorem ggX3_takeIdeas_X4_get : GoodIn wsX3_takeIdeas wsX4_get := goodIn_r _ [8, 9, 32] (by decide +kernel) (by decide +kernel)
set_option maxRecDepth 20000 in
theorem gX3_takeIdeas_X4_get : GoodIn wsX3_takeIdeas (wsV RX3 47 RX4 yX4_get wsX4_get) := goodIn_app (goodIn_of _ (by decide +kernel)) ggX3_takeIdeas_X4_get
set_option maxRecDepth 20000 in
theorem ggX3_takeIdeas_X5_alike : GoodIn wsX3_takeIdeas wsX5_alike := goodIn_r _ [14, 15, 16, 5, 6, 7, 8, 9, 33, 32] (by decide +kernel) (by decide +kernel)
set_option maxRecDepth 20000 in
theorem gX3_takeIdeas_X5_alike : GoodIn wsX3_takeIdeas (wsV RX3 51 RX5 yX5_alike wsX5_alike) := goodIn_app (goodIn_of _ (by decide +kernel)) ggX3_takeIdeas_X5_alike
set_option maxRecDepth 20000 in
theorem ggX3_takeIdeas_X4_set : GoodIn wsX3_takeIdeas wsX4_set := goodIn_r _ [20, 9, 32] (by decide +kernel) (by decide +kernel)
set_option maxRecDepth 20000 in
theorem gX3_takeIdeas_X4_set : GoodIn wsX3_takeIdeas (wsV RX3 56 RX4 yX4_set wsX4_set) := goodIn_app (goodIn_of _ (by decide +kernel)) ggX3_takeIdeas_X4_set
theorem dX3_takeIdeas_0 : decode cX3_takeIdeas 0 = .ok (.aload_n 0, 1) := by decide +kernel
theorem dX3_takeIdeas_1 : decode cX3_takeIdeas 1 = .ok (.aload_n 1, 1) := by decide +kernel
theorem dX3_takeIdeas_2 : decode cX3_takeIdeas 2 = .ok (.getfield 32, 3) := by decide +kernel
theorem dX3_takeIdeas_5 : decode cX3_takeIdeas 5 = .ok (.putfield 38, 3) := by decide +kernel
theorem dX3_takeIdeas_8 : decode cX3_takeIdeas 8 = .ok (.aload_n 0, 1) := by decide +kernel
theorem dX3_takeIdeas_9 : decode cX3_takeIdeas 9 = .ok (.aload_n 2, 1) := by decide +kernel
theorem dX3_takeIdeas_10 : decode cX3_takeIdeas 10 = .ok (.getfield 32, 3) := by decide +kernel
theorem dX3_takeIdeas_13 : decode cX3_takeIdeas 13 = .ok (.putfield 41, 3) := by decide +kernel
theorem dX3_takeIdeas_16 : decode cX3_takeIdeas 16 = .ok (.iconst 0, 1) := by decide +kernel
theorem dX3_takeIdeas_17 : decode cX3_takeIdeas 17 = .ok (.istore 4, 2) := by decide +kernel
theorem dX3_takeIdeas_19 : decode cX3_takeIdeas 19 = .ok (.iload 4, 2) := by decide +kernel
theorem dX3_takeIdeas_21 : decode cX3_takeIdeas 21 = .ok (.aload_n 0, 1) := by decide +kernel
theorem dX3_takeIdeas_22 : decode cX3_takeIdeas 22 = .ok (.getfield 38, 3) := by decide +kernel
theorem dX3_takeIdeas_25 : decode cX3_takeIdeas 25 = .ok (.if_icmp .ge 75, 3) := by decide +kernel
theorem dX3_takeIdeas_28 : decode cX3_takeIdeas 28 = .ok (.iconst 0, 1) := by decide +kernel
theorem dX3_takeIdeas_29 : decode cX3_takeIdeas 29 = .ok (.istore 5, 2) := by decide +kernel
theorem dX3_takeIdeas_31 : decode cX3_takeIdeas 31 = .ok (.iconst 0, 1) := by decide +kernel
theorem dX3_takeIdeas_32 : decode cX3_takeIdeas 32 = .ok (.istore 6, 2) := by decide +kernel
theorem dX3_takeIdeas_34 : decode cX3_takeIdeas 34 = .ok (.iload 6, 2) := by decide +kernel
theorem dX3_takeIdeas_36 : decode cX3_takeIdeas 36 = .ok (.aload_n 0, 1) := by decide +kernel
theorem dX3_takeIdeas_37 : decode cX3_takeIdeas 37 = .ok (.getfield 41, 3) := by decide +kernel
theorem dX3_takeIdeas_40 : decode cX3_takeIdeas 40 = .ok (.if_icmp .ge 43, 3) := by decide +kernel
theorem dX3_takeIdeas_43 : decode cX3_takeIdeas 43 = .ok (.aload_n 3, 1) := by decide +kernel
theorem dX3_takeIdeas_44 : decode cX3_takeIdeas 44 = .ok (.aload_n 1, 1) := by decide +kernel
theorem dX3_takeIdeas_45 : decode cX3_takeIdeas 45 = .ok (.getfield 44, 3) := by decide +kernel
theorem dX3_takeIdeas_48 : decode cX3_takeIdeas 48 = .ok (.iload 4, 2) := by decide +kernel
theorem dX3_takeIdeas_50 : decode cX3_takeIdeas 50 = .ok (.invokevirtual 47, 3) := by decide +kernel
theorem dX3_takeIdeas_53 : decode cX3_takeIdeas 53 = .ok (.aload_n 2, 1) := by decide +kernel
theorem dX3_takeIdeas_54 : decode cX3_takeIdeas 54 = .ok (.getfield 44, 3) := by decide +kernel
theorem dX3_takeIdeas_57 : decode cX3_takeIdeas 57 = .ok (.iload 6, 2) := by decide +kernel
theorem dX3_takeIdeas_59 : decode cX3_takeIdeas 59 = .ok (.invokevirtual 47, 3) := by decide +kernel
theorem dX3_takeIdeas_62 : decode cX3_takeIdeas 62 = .ok (.invokevirtual 51, 3) := by decide +kernel
theorem dX3_takeIdeas_65 : decode cX3_takeIdeas 65 = .ok (.ifCond .eq 12, 3) := by decide +kernel
theorem dX3_takeIdeas_68 : decode cX3_takeIdeas 68 = .ok (.iload 5, 2) := by decide +kernel
theorem dX3_takeIdeas_70 : decode cX3_takeIdeas 70 = .ok (.iconst 1, 1) := by decide +kernel
theorem dX3_takeIdeas_71 : decode cX3_takeIdeas 71 = .ok (.iload 6, 2) := by decide +kernel
theorem dX3_takeIdeas_73 : decode cX3_takeIdeas 73 = .ok (.ishl, 1) := by decide +kernel
theorem dX3_takeIdeas_74 : decode cX3_takeIdeas 74 = .ok (.ior, 1) := by decide +kernel
theorem dX3_takeIdeas_75 : decode cX3_takeIdeas 75 = .ok (.istore 5, 2) := by decide +kernel
theorem dX3_takeIdeas_77 : decode cX3_takeIdeas 77 = .ok (.iinc 6 1, 3) := by decide +kernel
theorem dX3_takeIdeas_80 : decode cX3_takeIdeas 80 = .ok (.goto (-46), 3) := by decide +kernel
theorem dX3_takeIdeas_83 : decode cX3_takeIdeas 83 = .ok (.aload_n 0, 1) := by decide +kernel
theorem dX3_takeIdeas_84 : decode cX3_takeIdeas 84 = .ok (.getfield 14, 3) := by decide +kernel
theorem dX3_takeIdeas_87 : decode cX3_takeIdeas 87 = .ok (.iload 4, 2) := by decide +kernel
theorem dX3_takeIdeas_89 : decode cX3_takeIdeas 89 = .ok (.iload 5, 2) := by decide +kernel
theorem dX3_takeIdeas_91 : decode cX3_takeIdeas 91 = .ok (.invokevirtual 56, 3) := by decide +kernel
theorem dX3_takeIdeas_94 : decode cX3_takeIdeas 94 = .ok (.iinc 4 1, 3) := by decide +kernel
theorem dX3_takeIdeas_97 : decode cX3_takeIdeas 97 = .ok (.goto (-78), 3) := by decide +kernel
theorem dX3_takeIdeas_100 : decode cX3_takeIdeas 100 = .ok (.return_, 1) := by decide +kernel
set_option maxRecDepth 20000 in
theorem ggX3_takeLinks_X4_set : GoodIn wsX3_takeLinks wsX4_set := goodIn_r _ [7, 8, 57] (by decide +kernel) (by decide +kernel)
set_option maxRecDepth 20000 in
theorem gX3_takeLinks_X4_set : GoodIn wsX3_takeLinks (wsV RX3 56 RX4 yX4_set wsX4_set) := goodIn_app (goodIn_of _ (by decide +kernel)) ggX3_takeLinks_X4_set
set_option maxRecDepth 20000 in
theorem ggX3_takeLinks_X3_fillPair : GoodIn wsX3_takeLinks wsX3_fillPair := goodIn_r _ [13, 14, 15, 16, 17, 18, 19, 20, 21, 22, 23, 24, 25, 26, 27, 28, 6, 29, 8, 30, 31, 32, 12, 33, 34, 35, 36, 37, 38, 39, 40, 41, 42, 43, 44, 45, 46, 47, 48, 3, 4, 5, 7, 49, 50, 51, 52, 53, 54, 55, 56, 58, 57] (by decide +kernel) (by decide +kernel)
set_option maxRecDepth 20000 in
theorem gX3_takeLinks_X3_fillPair : GoodIn wsX3_takeLinks (wsV RX3 60 RX3 yX3_fillPair wsX3_fillPair) := goodIn_app (goodIn_of _ (by decide +kernel)) ggX3_takeLinks_X3_fillPair
theorem dX3_takeLinks_0 : decode cX3_takeLinks 0 = .ok (.iconst 0, 1) := by decide +kernel
theorem dX3_takeLinks_1 : decode cX3_takeLinks 1 = .ok (.istore 4, 2) := by decide +kernel
theorem dX3_takeLinks_3 : decode cX3_takeLinks 3 = .ok (.aload_n 0, 1) := by decide +kernel
theorem dX3_takeLinks_4 : decode cX3_takeLinks 4 = .ok (.getfield 23, 3) := by decide +kernel
theorem dX3_takeLinks_7 : decode cX3_takeLinks 7 = .ok (.aload_n 0, 1) := by decide +kernel
theorem dX3_takeLinks_8 : decode cX3_takeLinks 8 = .ok (.getfield 38, 3) := by decide +kernel
theorem dX3_takeLinks_11 : decode cX3_takeLinks 11 = .ok (.iload 4, 2) := by decide +kernel
theorem dX3_takeLinks_13 : decode cX3_takeLinks 13 = .ok (.invokevirtual 56, 3) := by decide +kernel
theorem dX3_takeLinks_16 : decode cX3_takeLinks 16 = .ok (.aload_n 0, 1) := by decide +kernel
theorem dX3_takeLinks_17 : decode cX3_takeLinks 17 = .ok (.getfield 38, 3) := by decide +kernel
theorem dX3_takeLinks_20 : decode cX3_takeLinks 20 = .ok (.iconst 1, 1) := by decide +kernel
theorem dX3_takeLinks_21 : decode cX3_takeLinks 21 = .ok (.isub, 1) := by decide +kernel
theorem dX3_takeLinks_22 : decode cX3_takeLinks 22 = .ok (.istore 5, 2) := by decide +kernel
theorem dX3_takeLinks_24 : decode cX3_takeLinks 24 = .ok (.iload 5, 2) := by decide +kernel
theorem dX3_takeLinks_26 : decode cX3_takeLinks 26 = .ok (.ifCond .lt 52, 3) := by decide +kernel
theorem dX3_takeLinks_29 : decode cX3_takeLinks 29 = .ok (.iconst 0, 1) := by decide +kernel
theorem dX3_takeLinks_30 : decode cX3_takeLinks 30 = .ok (.istore 6, 2) := by decide +kernel
theorem dX3_takeLinks_32 : decode cX3_takeLinks 32 = .ok (.iload 6, 2) := by decide +kernel
theorem dX3_takeLinks_34 : decode cX3_takeLinks 34 = .ok (.iload 5, 2) := by decide +kernel
theorem dX3_takeLinks_36 : decode cX3_takeLinks 36 = .ok (.if_icmp .ge 25, 3) := by decide +kernel
theorem dX3_takeLinks_39 : decode cX3_takeLinks 39 = .ok (.iload 4, 2) := by decide +kernel
theorem dX3_takeLinks_41 : decode cX3_takeLinks 41 = .ok (.aload_n 0, 1) := by decide +kernel
theorem dX3_takeLinks_42 : decode cX3_takeLinks 42 = .ok (.iload 6, 2) := by decide +kernel
theorem dX3_takeLinks_44 : decode cX3_takeLinks 44 = .ok (.iload 5, 2) := by decide +kernel
theorem dX3_takeLinks_46 : decode cX3_takeLinks 46 = .ok (.aload_n 1, 1) := by decide +kernel
theorem dX3_takeLinks_47 : decode cX3_takeLinks 47 = .ok (.aload_n 2, 1) := by decide +kernel
theorem dX3_takeLinks_48 : decode cX3_takeLinks 48 = .ok (.aload_n 3, 1) := by decide +kernel
theorem dX3_takeLinks_49 : decode cX3_takeLinks 49 = .ok (.invokevirtual 60, 3) := by decide +kernel
theorem dX3_takeLinks_52 : decode cX3_takeLinks 52 = .ok (.iadd, 1) := by decide +kernel
theorem dX3_takeLinks_53 : decode cX3_takeLinks 53 = .ok (.istore 4, 2) := by decide +kernel
theorem dX3_takeLinks_55 : decode cX3_takeLinks 55 = .ok (.iinc 6 1, 3) := by decide +kernel
theorem dX3_takeLinks_58 : decode cX3_takeLinks 58 = .ok (.goto (-26), 3) := by decide +kernel
theorem dX3_takeLinks_61 : decode cX3_takeLinks 61 = .ok (.aload_n 0, 1) := by decide +kernel
theorem dX3_takeLinks_62 : decode cX3_takeLinks 62 = .ok (.getfield 23, 3) := by decide +kernel
theorem dX3_takeLinks_65 : decode cX3_takeLinks 65 = .ok (.iload 5, 2) := by decide +kernel
theorem dX3_takeLinks_67 : decode cX3_takeLinks 67 = .ok (.iload 4, 2) := by decide +kernel
theorem dX3_takeLinks_69 : decode cX3_takeLinks 69 = .ok (.invokevirtual 56, 3) := by decide +kernel
theorem dX3_takeLinks_72 : decode cX3_takeLinks 72 = .ok (.iinc 5 (-1), 3) := by decide +kernel
theorem dX3_takeLinks_75 : decode cX3_takeLinks 75 = .ok (.goto (-51), 3) := by decide +kernel
theorem dX3_takeLinks_78 : decode cX3_takeLinks 78 = .ok (.return_, 1) := by decide +kernel
set_option maxRecDepth 20000 in
theorem ggX3_fillPair_X2_between : GoodIn wsX3_fillPair wsX2_between := goodIn_r _ [11, 12, 13, 14, 15, 16, 17, 18, 51, 52] (by decide +kernel) (by decide +kernel)
set_option maxRecDepth 20000 in
theorem gX3_fillPair_X2_between : GoodIn wsX3_fillPair (wsV RX3 64 RX2 yX2_between wsX2_between) := goodIn_app (goodIn_of _ (by decide +kernel)) ggX3_fillPair_X2_between
set_option maxRecDepth 20000 in
theorem ggX3_fillPair_X3_isAlike : GoodIn wsX3_fillPair wsX3_isAlike := goodIn_r _ [23, 24, 25, 14, 15, 16, 17, 18, 43, 44, 45, 46, 47, 48, 49, 50, 52] (by decide +kernel) (by decide +kernel)
set_option maxRecDepth 20000 in
theorem gX3_fillPair_X3_isAlike : GoodIn wsX3_fillPair (wsV RX3 70 RX3 yX3_isAlike wsX3_isAlike) := goodIn_app (goodIn_of _ (by decide +kernel)) ggX3_fillPair_X3_isAlike
set_option maxRecDepth 20000 in
theorem ggX3_fillPair_X6_pointsFor : GoodIn wsX3_fillPair wsX6_pointsFor := goodIn_r _ [28, 29, 30, 31, 32, 33, 34, 35] (by decide +kernel) (by decide +kernel)
set_option maxRecDepth 20000 in
theorem gX3_fillPair_X6_pointsFor_n73 : GoodIn wsX3_fillPair (wsX6_pointsFor) := ggX3_fillPair_X6_pointsFor
set_option maxRecDepth 20000 in
theorem ggX3_fillPair_X3_place : GoodIn wsX3_fillPair wsX3_place := goodIn_r _ [38] (by decide +kernel) (by decide +kernel)
set_option maxRecDepth 20000 in
theorem gX3_fillPair_X3_place : GoodIn wsX3_fillPair (va_wsS RX3 77 yX3_place wsX3_place) := goodIn_app (goodIn_of _ (by decide +kernel)) ggX3_fillPair_X3_place
set_option maxRecDepth 20000 in
theorem ggX3_fillPair_X4_set : GoodIn wsX3_fillPair wsX4_set := goodIn_r _ [42, 18, 52] (by decide +kernel) (by decide +kernel)
set_option maxRecDepth 20000 in
theorem gX3_fillPair_X4_set : GoodIn wsX3_fillPair (wsV RX3 56 RX4 yX4_set wsX4_set) := goodIn_app (goodIn_of _ (by decide +kernel)) ggX3_fillPair_X4_set
theorem dX3_fillPair_0 : decode cX3_fillPair 0 = .ok (.aload_n 3, 1) := by decide +kernel
theorem dX3_fillPair_1 : decode cX3_fillPair 1 = .ok (.iload_n 1, 1) := by decide +kernel
theorem dX3_fillPair_2 : decode cX3_fillPair 2 = .ok (.iload_n 2, 1) := by decide +kernel
theorem dX3_fillPair_3 : decode cX3_fillPair 3 = .ok (.invokevirtual 64, 3) := by decide +kernel
theorem dX3_fillPair_6 : decode cX3_fillPair 6 = .ok (.istore 6, 2) := by decide +kernel
theorem dX3_fillPair_8 : decode cX3_fillPair 8 = .ok (.aload_n 3, 1) := by decide +kernel
theorem dX3_fillPair_9 : decode cX3_fillPair 9 = .ok (.iload_n 2, 1) := by decide +kernel
theorem dX3_fillPair_10 : decode cX3_fillPair 10 = .ok (.iload_n 1, 1) := by decide +kernel
theorem dX3_fillPair_11 : decode cX3_fillPair 11 = .ok (.invokevirtual 64, 3) := by decide +kernel
theorem dX3_fillPair_14 : decode cX3_fillPair 14 = .ok (.istore 7, 2) := by decide +kernel
theorem dX3_fillPair_16 : decode cX3_fillPair 16 = .ok (.aload 4, 2) := by decide +kernel
theorem dX3_fillPair_18 : decode cX3_fillPair 18 = .ok (.iload_n 1, 1) := by decide +kernel
theorem dX3_fillPair_19 : decode cX3_fillPair 19 = .ok (.iload_n 2, 1) := by decide +kernel
theorem dX3_fillPair_20 : decode cX3_fillPair 20 = .ok (.invokevirtual 64, 3) := by decide +kernel
theorem dX3_fillPair_23 : decode cX3_fillPair 23 = .ok (.istore 8, 2) := by decide +kernel
theorem dX3_fillPair_25 : decode cX3_fillPair 25 = .ok (.aload 4, 2) := by decide +kernel
theorem dX3_fillPair_27 : decode cX3_fillPair 27 = .ok (.iload_n 2, 1) := by decide +kernel
theorem dX3_fillPair_28 : decode cX3_fillPair 28 = .ok (.iload_n 1, 1) := by decide +kernel
theorem dX3_fillPair_29 : decode cX3_fillPair 29 = .ok (.invokevirtual 64, 3) := by decide +kernel
theorem dX3_fillPair_32 : decode cX3_fillPair 32 = .ok (.istore 9, 2) := by decide +kernel
theorem dX3_fillPair_34 : decode cX3_fillPair 34 = .ok (.iconst 0, 1) := by decide +kernel
theorem dX3_fillPair_35 : decode cX3_fillPair 35 = .ok (.istore 10, 2) := by decide +kernel
theorem dX3_fillPair_37 : decode cX3_fillPair 37 = .ok (.iconst 0, 1) := by decide +kernel
theorem dX3_fillPair_38 : decode cX3_fillPair 38 = .ok (.istore 11, 2) := by decide +kernel
theorem dX3_fillPair_40 : decode cX3_fillPair 40 = .ok (.iload 11, 2) := by decide +kernel
theorem dX3_fillPair_42 : decode cX3_fillPair 42 = .ok (.aload_n 0, 1) := by decide +kernel
theorem dX3_fillPair_43 : decode cX3_fillPair 43 = .ok (.getfield 41, 3) := by decide +kernel
theorem dX3_fillPair_46 : decode cX3_fillPair 46 = .ok (.if_icmp .ge 120, 3) := by decide +kernel
theorem dX3_fillPair_49 : decode cX3_fillPair 49 = .ok (.iconst 0, 1) := by decide +kernel
theorem dX3_fillPair_50 : decode cX3_fillPair 50 = .ok (.istore 12, 2) := by decide +kernel
theorem dX3_fillPair_52 : decode cX3_fillPair 52 = .ok (.iload 12, 2) := by decide +kernel
theorem dX3_fillPair_54 : decode cX3_fillPair 54 = .ok (.aload_n 0, 1) := by decide +kernel
theorem dX3_fillPair_55 : decode cX3_fillPair 55 = .ok (.getfield 41, 3) := by decide +kernel
theorem dX3_fillPair_58 : decode cX3_fillPair 58 = .ok (.if_icmp .ge 102, 3) := by decide +kernel
theorem dX3_fillPair_61 : decode cX3_fillPair 61 = .ok (.iload 11, 2) := by decide +kernel
theorem dX3_fillPair_63 : decode cX3_fillPair 63 = .ok (.iload 12, 2) := by decide +kernel
theorem dX3_fillPair_65 : decode cX3_fillPair 65 = .ok (.if_icmp .eq 89, 3) := by decide +kernel
theorem dX3_fillPair_68 : decode cX3_fillPair 68 = .ok (.aload_n 0, 1) := by decide +kernel
theorem dX3_fillPair_69 : decode cX3_fillPair 69 = .ok (.iload_n 1, 1) := by decide +kernel
theorem dX3_fillPair_70 : decode cX3_fillPair 70 = .ok (.iload 11, 2) := by decide +kernel
theorem dX3_fillPair_72 : decode cX3_fillPair 72 = .ok (.invokevirtual 70, 3) := by decide +kernel
theorem dX3_fillPair_75 : decode cX3_fillPair 75 = .ok (.ifCond .eq 79, 3) := by decide +kernel
theorem dX3_fillPair_78 : decode cX3_fillPair 78 = .ok (.aload_n 0, 1) := by decide +kernel
theorem dX3_fillPair_79 : decode cX3_fillPair 79 = .ok (.iload_n 2, 1) := by decide +kernel
theorem dX3_fillPair_80 : decode cX3_fillPair 80 = .ok (.iload 12, 2) := by decide +kernel
theorem dX3_fillPair_82 : decode cX3_fillPair 82 = .ok (.invokevirtual 70, 3) := by decide +kernel
theorem dX3_fillPair_85 : decode cX3_fillPair 85 = .ok (.ifCond .eq 69, 3) := by decide +kernel
theorem dX3_fillPair_88 : decode cX3_fillPair 88 = .ok (.aload 5, 2) := by decide +kernel
theorem dX3_fillPair_90 : decode cX3_fillPair 90 = .ok (.iload 11, 2) := by decide +kernel
theorem dX3_fillPair_92 : decode cX3_fillPair 92 = .ok (.iload 12, 2) := by decide +kernel
theorem dX3_fillPair_94 : decode cX3_fillPair 94 = .ok (.invokevirtual 64, 3) := by decide +kernel
theorem dX3_fillPair_97 : decode cX3_fillPair 97 = .ok (.iload 8, 2) := by decide +kernel
theorem dX3_fillPair_99 : decode cX3_fillPair 99 = .ok (.iload 6, 2) := by decide +kernel
theorem dX3_fillPair_101 : decode cX3_fillPair 101 = .ok (.iload 7, 2) := by decide +kernel
theorem dX3_fillPair_103 : decode cX3_fillPair 103 = .ok (.invokestatic 73, 3) := by decide +kernel
theorem dX3_fillPair_106 : decode cX3_fillPair 106 = .ok (.aload 5, 2) := by decide +kernel
theorem dX3_fillPair_108 : decode cX3_fillPair 108 = .ok (.iload 12, 2) := by decide +kernel
theorem dX3_fillPair_110 : decode cX3_fillPair 110 = .ok (.iload 11, 2) := by decide +kernel
theorem dX3_fillPair_112 : decode cX3_fillPair 112 = .ok (.invokevirtual 64, 3) := by decide +kernel
theorem dX3_fillPair_115 : decode cX3_fillPair 115 = .ok (.iload 9, 2) := by decide +kernel
theorem dX3_fillPair_117 : decode cX3_fillPair 117 = .ok (.iload 7, 2) := by decide +kernel
theorem dX3_fillPair_119 : decode cX3_fillPair 119 = .ok (.iload 6, 2) := by decide +kernel
theorem dX3_fillPair_121 : decode cX3_fillPair 121 = .ok (.invokestatic 73, 3) := by decide +kernel
theorem dX3_fillPair_124 : decode cX3_fillPair 124 = .ok (.iadd, 1) := by decide +kernel
theorem dX3_fillPair_125 : decode cX3_fillPair 125 = .ok (.istore 13, 2) := by decide +kernel
theorem dX3_fillPair_127 : decode cX3_fillPair 127 = .ok (.aload_n 0, 1) := by decide +kernel
theorem dX3_fillPair_128 : decode cX3_fillPair 128 = .ok (.getfield 20, 3) := by decide +kernel
theorem dX3_fillPair_131 : decode cX3_fillPair 131 = .ok (.iload_n 1, 1) := by decide +kernel
theorem dX3_fillPair_132 : decode cX3_fillPair 132 = .ok (.iload_n 2, 1) := by decide +kernel
theorem dX3_fillPair_133 : decode cX3_fillPair 133 = .ok (.iload 11, 2) := by decide +kernel
theorem dX3_fillPair_135 : decode cX3_fillPair 135 = .ok (.iload 12, 2) := by decide +kernel
theorem dX3_fillPair_137 : decode cX3_fillPair 137 = .ok (.invokestatic 77, 3) := by decide +kernel
theorem dX3_fillPair_140 : decode cX3_fillPair 140 = .ok (.iload 13, 2) := by decide +kernel
theorem dX3_fillPair_142 : decode cX3_fillPair 142 = .ok (.invokevirtual 56, 3) := by decide +kernel
theorem dX3_fillPair_145 : decode cX3_fillPair 145 = .ok (.iload 10, 2) := by decide +kernel
theorem dX3_fillPair_147 : decode cX3_fillPair 147 = .ok (.iload 13, 2) := by decide +kernel
theorem dX3_fillPair_149 : decode cX3_fillPair 149 = .ok (.invokestatic 80, 3) := by decide +kernel
theorem dX3_fillPair_152 : decode cX3_fillPair 152 = .ok (.istore 10, 2) := by decide +kernel
theorem dX3_fillPair_154 : decode cX3_fillPair 154 = .ok (.iinc 12 1, 3) := by decide +kernel
theorem dX3_fillPair_157 : decode cX3_fillPair 157 = .ok (.goto (-105), 3) := by decide +kernel
theorem dX3_fillPair_160 : decode cX3_fillPair 160 = .ok (.iinc 11 1, 3) := by decide +kernel
theorem dX3_fillPair_163 : decode cX3_fillPair 163 = .ok (.goto (-123), 3) := by decide +kernel
theorem dX3_fillPair_166 : decode cX3_fillPair 166 = .ok (.iload 10, 2) := by decide +kernel
theorem dX3_fillPair_168 : decode cX3_fillPair 168 = .ok (.ireturn, 1) := by decide +kernel
theorem dX3_place_0 : decode cX3_place 0 = .ok (.iload_n 0, 1) := by decide +kernel
theorem dX3_place_1 : decode cX3_place 1 = .ok (.iconst 5, 1) := by decide +kernel
theorem dX3_place_2 : decode cX3_place 2 = .ok (.imul, 1) := by decide +kernel
theorem dX3_place_3 : decode cX3_place 3 = .ok (.iload_n 1, 1) := by decide +kernel
theorem dX3_place_4 : decode cX3_place 4 = .ok (.iadd, 1) := by decide +kernel
theorem dX3_place_5 : decode cX3_place 5 = .ok (.bipush 25, 2) := by decide +kernel
theorem dX3_place_7 : decode cX3_place 7 = .ok (.imul, 1) := by decide +kernel
theorem dX3_place_8 : decode cX3_place 8 = .ok (.iload_n 2, 1) := by decide +kernel
theorem dX3_place_9 : decode cX3_place 9 = .ok (.iconst 5, 1) := by decide +kernel
theorem dX3_place_10 : decode cX3_place 10 = .ok (.imul, 1) := by decide +kernel
theorem dX3_place_11 : decode cX3_place 11 = .ok (.iadd, 1) := by decide +kernel
theorem dX3_place_12 : decode cX3_place 12 = .ok (.iload_n 3, 1) := by decide +kernel
theorem dX3_place_13 : decode cX3_place 13 = .ok (.iadd, 1) := by decide +kernel
theorem dX3_place_14 : decode cX3_place 14 = .ok (.ireturn, 1) := by decide +kernel
set_option maxRecDepth 20000 in
theorem ggX3_isAlike_X4_get : GoodIn wsX3_isAlike wsX4_get := goodIn_r _ [6, 7, 16] (by decide +kernel) (by decide +kernel)
set_option maxRecDepth 20000 in
theorem gX3_isAlike_X4_get : GoodIn wsX3_isAlike (wsV RX3 47 RX4 yX4_get wsX4_get) := goodIn_app (goodIn_of _ (by decide +kernel)) ggX3_isAlike_X4_get
theorem dX3_isAlike_0 : decode cX3_isAlike 0 = .ok (.aload_n 0, 1) := by decide +kernel
theorem dX3_isAlike_1 : decode cX3_isAlike 1 = .ok (.getfield 14, 3) := by decide +kernel
theorem dX3_isAlike_4 : decode cX3_isAlike 4 = .ok (.iload_n 1, 1) := by decide +kernel
theorem dX3_isAlike_5 : decode cX3_isAlike 5 = .ok (.invokevirtual 47, 3) := by decide +kernel
theorem dX3_isAlike_8 : decode cX3_isAlike 8 = .ok (.iload_n 2, 1) := by decide +kernel
theorem dX3_isAlike_9 : decode cX3_isAlike 9 = .ok (.ishr, 1) := by decide +kernel
theorem dX3_isAlike_10 : decode cX3_isAlike 10 = .ok (.iconst 1, 1) := by decide +kernel
theorem dX3_isAlike_11 : decode cX3_isAlike 11 = .ok (.iand, 1) := by decide +kernel
theorem dX3_isAlike_12 : decode cX3_isAlike 12 = .ok (.ifCond .eq 7, 3) := by decide +kernel
theorem dX3_isAlike_15 : decode cX3_isAlike 15 = .ok (.iconst 1, 1) := by decide +kernel
theorem dX3_isAlike_16 : decode cX3_isAlike 16 = .ok (.goto 4, 3) := by decide +kernel
theorem dX3_isAlike_19 : decode cX3_isAlike 19 = .ok (.iconst 0, 1) := by decide +kernel
theorem dX3_isAlike_20 : decode cX3_isAlike 20 = .ok (.ireturn, 1) := by decide +kernel
set_option maxRecDepth 20000 in
theorem ggX3_findBest_X3_extend : GoodIn wsX3_findBest wsX3_extend := goodIn_r _ [5, 6, 1, 7, 8, 9, 10, 11, 12, 13, 14, 15, 16, 17, 18, 19, 20, 21, 22, 23, 24, 4, 25, 26, 27, 28, 29, 30, 31, 32, 33, 34, 35, 36, 37, 38, 2, 3, 39, 40, 41, 42, 43, 44, 45, 46, 47] (by decide +kernel) (by decide +kernel)
set_option maxRecDepth 20000 in
theorem gX3_findBest_X3_extend : GoodIn wsX3_findBest (va_wsS RX3 88 yX3_extend wsX3_extend) := goodIn_app (goodIn_of _ (by decide +kernel)) ggX3_findBest_X3_extend
theorem dX3_findBest_0 : decode cX3_findBest 0 = .ok (.aload_n 0, 1) := by decide +kernel
theorem dX3_findBest_1 : decode cX3_findBest 1 = .ok (.iload_n 1, 1) := by decide +kernel
theorem dX3_findBest_2 : decode cX3_findBest 2 = .ok (.putfield 85, 3) := by decide +kernel
theorem dX3_findBest_5 : decode cX3_findBest 5 = .ok (.aload_n 0, 1) := by decide +kernel
theorem dX3_findBest_6 : decode cX3_findBest 6 = .ok (.iconst 0, 1) := by decide +kernel
