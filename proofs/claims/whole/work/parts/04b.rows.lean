theorem dX4_fill_0 : decode cX4_fill 0 = .ok (.iconst 0, 1) := by decide +kernel
theorem dX4_fill_1 : decode cX4_fill 1 = .ok (.istore_n 2, 1) := by decide +kernel
theorem dX4_fill_2 : decode cX4_fill 2 = .ok (.iload_n 2, 1) := by decide +kernel
theorem dX4_fill_3 : decode cX4_fill 3 = .ok (.aload_n 0, 1) := by decide +kernel
theorem dX4_fill_4 : decode cX4_fill 4 = .ok (.getfield 13, 3) := by decide +kernel
theorem dX4_fill_7 : decode cX4_fill 7 = .ok (.arraylength, 1) := by decide +kernel
theorem dX4_fill_8 : decode cX4_fill 8 = .ok (.if_icmp .ge 16, 3) := by decide +kernel
theorem dX4_fill_11 : decode cX4_fill 11 = .ok (.aload_n 0, 1) := by decide +kernel
theorem dX4_fill_12 : decode cX4_fill 12 = .ok (.getfield 13, 3) := by decide +kernel
theorem dX4_fill_15 : decode cX4_fill 15 = .ok (.iload_n 2, 1) := by decide +kernel
theorem dX4_fill_16 : decode cX4_fill 16 = .ok (.iload_n 1, 1) := by decide +kernel
theorem dX4_fill_17 : decode cX4_fill 17 = .ok (.iastore, 1) := by decide +kernel
theorem dX4_fill_18 : decode cX4_fill 18 = .ok (.iinc 2 1, 3) := by decide +kernel
theorem dX4_fill_21 : decode cX4_fill 21 = .ok (.goto (-19), 3) := by decide +kernel
theorem dX4_fill_24 : decode cX4_fill 24 = .ok (.return_, 1) := by decide +kernel
set_option maxRecDepth 20000 in
theorem ggX4_become_X4_get : GoodIn wsX4_become wsX4_get := goodIn_r _ [6, 1, 7] (by decide +kernel) (by decide +kernel)
set_option maxRecDepth 20000 in
theorem gX4_become_X4_get : GoodIn wsX4_become (wsV RX4 19 RX4 yX4_get wsX4_get) := goodIn_app (goodIn_of _ (by decide +kernel)) ggX4_become_X4_get
theorem dX4_become_0 : decode cX4_become 0 = .ok (.iconst 0, 1) := by decide +kernel
theorem dX4_become_1 : decode cX4_become 1 = .ok (.istore_n 2, 1) := by decide +kernel
theorem dX4_become_2 : decode cX4_become 2 = .ok (.iload_n 2, 1) := by decide +kernel
theorem dX4_become_3 : decode cX4_become 3 = .ok (.aload_n 0, 1) := by decide +kernel
theorem dX4_become_4 : decode cX4_become 4 = .ok (.getfield 13, 3) := by decide +kernel
theorem dX4_become_7 : decode cX4_become 7 = .ok (.arraylength, 1) := by decide +kernel
theorem dX4_become_8 : decode cX4_become 8 = .ok (.if_icmp .ge 20, 3) := by decide +kernel
theorem dX4_become_11 : decode cX4_become 11 = .ok (.aload_n 0, 1) := by decide +kernel
theorem dX4_become_12 : decode cX4_become 12 = .ok (.getfield 13, 3) := by decide +kernel
theorem dX4_become_15 : decode cX4_become 15 = .ok (.iload_n 2, 1) := by decide +kernel
theorem dX4_become_16 : decode cX4_become 16 = .ok (.aload_n 1, 1) := by decide +kernel
theorem dX4_become_17 : decode cX4_become 17 = .ok (.iload_n 2, 1) := by decide +kernel
theorem dX4_become_18 : decode cX4_become 18 = .ok (.invokevirtual 19, 3) := by decide +kernel
theorem dX4_become_21 : decode cX4_become 21 = .ok (.iastore, 1) := by decide +kernel
theorem dX4_become_22 : decode cX4_become 22 = .ok (.iinc 2 1, 3) := by decide +kernel
theorem dX4_become_25 : decode cX4_become 25 = .ok (.goto (-23), 3) := by decide +kernel
theorem dX4_become_28 : decode cX4_become 28 = .ok (.return_, 1) := by decide +kernel
set_option maxRecDepth 20000 in
theorem ggX5_init_X4_init : GoodIn wsX5_init wsX4_init := goodIn_r _ [10, 11, 2, 3, 12, 13, 14, 15, 16, 17, 22] (by decide +kernel) (by decide +kernel)
set_option maxRecDepth 20000 in
theorem gX5_init_X4_init : GoodIn wsX5_init (wsX4_init) := ggX5_init_X4_init
set_option maxRecDepth 20000 in
theorem ggX5_init_X4_set : GoodIn wsX5_init wsX4_set := goodIn_r _ [21, 17, 22] (by decide +kernel) (by decide +kernel)
set_option maxRecDepth 20000 in
theorem gX5_init_X4_set : GoodIn wsX5_init (wsV RX5 20 RX4 yX4_set wsX4_set) := goodIn_app (goodIn_of _ (by decide +kernel)) ggX5_init_X4_set
theorem dX5_init_0 : decode cX5_init 0 = .ok (.aload_n 0, 1) := by decide +kernel
theorem dX5_init_1 : decode cX5_init 1 = .ok (.invokespecial 3, 3) := by decide +kernel
theorem dX5_init_4 : decode cX5_init 4 = .ok (.aload_n 0, 1) := by decide +kernel
theorem dX5_init_5 : decode cX5_init 5 = .ok (.new 9, 3) := by decide +kernel
theorem dX5_init_8 : decode cX5_init 8 = .ok (.dup, 1) := by decide +kernel
theorem dX5_init_9 : decode cX5_init 9 = .ok (.bipush 32, 2) := by decide +kernel
theorem dX5_init_11 : decode cX5_init 11 = .ok (.invokespecial 11, 3) := by decide +kernel
theorem dX5_init_14 : decode cX5_init 14 = .ok (.putfield 14, 3) := by decide +kernel
theorem dX5_init_17 : decode cX5_init 17 = .ok (.iconst 0, 1) := by decide +kernel
theorem dX5_init_18 : decode cX5_init 18 = .ok (.istore_n 1, 1) := by decide +kernel
theorem dX5_init_19 : decode cX5_init 19 = .ok (.iload_n 1, 1) := by decide +kernel
theorem dX5_init_20 : decode cX5_init 20 = .ok (.bipush 32, 2) := by decide +kernel
theorem dX5_init_22 : decode cX5_init 22 = .ok (.if_icmp .ge 18, 3) := by decide +kernel
theorem dX5_init_25 : decode cX5_init 25 = .ok (.aload_n 0, 1) := by decide +kernel
theorem dX5_init_26 : decode cX5_init 26 = .ok (.getfield 14, 3) := by decide +kernel
theorem dX5_init_29 : decode cX5_init 29 = .ok (.iload_n 1, 1) := by decide +kernel
theorem dX5_init_30 : decode cX5_init 30 = .ok (.iload_n 1, 1) := by decide +kernel
theorem dX5_init_31 : decode cX5_init 31 = .ok (.invokevirtual 20, 3) := by decide +kernel
theorem dX5_init_34 : decode cX5_init 34 = .ok (.iinc 1 1, 3) := by decide +kernel
theorem dX5_init_37 : decode cX5_init 37 = .ok (.goto (-18), 3) := by decide +kernel
theorem dX5_init_40 : decode cX5_init 40 = .ok (.return_, 1) := by decide +kernel
set_option maxRecDepth 20000 in
theorem ggX5_alike_X4_get : GoodIn wsX5_alike wsX4_get := goodIn_r _ [6, 7, 9] (by decide +kernel) (by decide +kernel)
set_option maxRecDepth 20000 in
theorem gX5_alike_X4_get : GoodIn wsX5_alike (wsV RX5 24 RX4 yX4_get wsX4_get) := goodIn_app (goodIn_of _ (by decide +kernel)) ggX5_alike_X4_get
theorem dX5_alike_0 : decode cX5_alike 0 = .ok (.aload_n 0, 1) := by decide +kernel
theorem dX5_alike_1 : decode cX5_alike 1 = .ok (.getfield 14, 3) := by decide +kernel
theorem dX5_alike_4 : decode cX5_alike 4 = .ok (.iload_n 1, 1) := by decide +kernel
theorem dX5_alike_5 : decode cX5_alike 5 = .ok (.invokevirtual 24, 3) := by decide +kernel
theorem dX5_alike_8 : decode cX5_alike 8 = .ok (.aload_n 0, 1) := by decide +kernel
theorem dX5_alike_9 : decode cX5_alike 9 = .ok (.getfield 14, 3) := by decide +kernel
theorem dX5_alike_12 : decode cX5_alike 12 = .ok (.iload_n 2, 1) := by decide +kernel
theorem dX5_alike_13 : decode cX5_alike 13 = .ok (.invokevirtual 24, 3) := by decide +kernel
theorem dX5_alike_16 : decode cX5_alike 16 = .ok (.if_icmp .ne 7, 3) := by decide +kernel
theorem dX5_alike_19 : decode cX5_alike 19 = .ok (.iconst 1, 1) := by decide +kernel
theorem dX5_alike_20 : decode cX5_alike 20 = .ok (.goto 4, 3) := by decide +kernel
theorem dX5_alike_23 : decode cX5_alike 23 = .ok (.iconst 0, 1) := by decide +kernel
theorem dX5_alike_24 : decode cX5_alike 24 = .ok (.ireturn, 1) := by decide +kernel
set_option maxRecDepth 20000 in
theorem ggX5_join_X4_get : GoodIn wsX5_join wsX4_get := goodIn_r _ [6, 7, 13] (by decide +kernel) (by decide +kernel)
set_option maxRecDepth 20000 in
theorem gX5_join_X4_get : GoodIn wsX5_join (wsV RX5 24 RX4 yX4_get wsX4_get) := goodIn_app (goodIn_of _ (by decide +kernel)) ggX5_join_X4_get
set_option maxRecDepth 20000 in
theorem ggX5_join_X4_set : GoodIn wsX5_join wsX4_set := goodIn_r _ [11, 7, 13] (by decide +kernel) (by decide +kernel)
set_option maxRecDepth 20000 in
theorem gX5_join_X4_set : GoodIn wsX5_join (wsV RX5 20 RX4 yX4_set wsX4_set) := goodIn_app (goodIn_of _ (by decide +kernel)) ggX5_join_X4_set
theorem dX5_join_0 : decode cX5_join 0 = .ok (.aload_n 0, 1) := by decide +kernel
theorem dX5_join_1 : decode cX5_join 1 = .ok (.getfield 14, 3) := by decide +kernel
theorem dX5_join_4 : decode cX5_join 4 = .ok (.iload_n 1, 1) := by decide +kernel
theorem dX5_join_5 : decode cX5_join 5 = .ok (.invokevirtual 24, 3) := by decide +kernel
theorem dX5_join_8 : decode cX5_join 8 = .ok (.istore_n 3, 1) := by decide +kernel
theorem dX5_join_9 : decode cX5_join 9 = .ok (.aload_n 0, 1) := by decide +kernel
theorem dX5_join_10 : decode cX5_join 10 = .ok (.getfield 14, 3) := by decide +kernel
theorem dX5_join_13 : decode cX5_join 13 = .ok (.iload_n 2, 1) := by decide +kernel
theorem dX5_join_14 : decode cX5_join 14 = .ok (.invokevirtual 24, 3) := by decide +kernel
theorem dX5_join_17 : decode cX5_join 17 = .ok (.istore 4, 2) := by decide +kernel
theorem dX5_join_19 : decode cX5_join 19 = .ok (.iconst 0, 1) := by decide +kernel
theorem dX5_join_20 : decode cX5_join 20 = .ok (.istore 5, 2) := by decide +kernel
theorem dX5_join_22 : decode cX5_join 22 = .ok (.iload 5, 2) := by decide +kernel
theorem dX5_join_24 : decode cX5_join 24 = .ok (.bipush 32, 2) := by decide +kernel
theorem dX5_join_26 : decode cX5_join 26 = .ok (.if_icmp .ge 33, 3) := by decide +kernel
theorem dX5_join_29 : decode cX5_join 29 = .ok (.aload_n 0, 1) := by decide +kernel
theorem dX5_join_30 : decode cX5_join 30 = .ok (.getfield 14, 3) := by decide +kernel
theorem dX5_join_33 : decode cX5_join 33 = .ok (.iload 5, 2) := by decide +kernel
theorem dX5_join_35 : decode cX5_join 35 = .ok (.invokevirtual 24, 3) := by decide +kernel
theorem dX5_join_38 : decode cX5_join 38 = .ok (.iload 4, 2) := by decide +kernel
theorem dX5_join_40 : decode cX5_join 40 = .ok (.if_icmp .ne 13, 3) := by decide +kernel
theorem dX5_join_43 : decode cX5_join 43 = .ok (.aload_n 0, 1) := by decide +kernel
theorem dX5_join_44 : decode cX5_join 44 = .ok (.getfield 14, 3) := by decide +kernel
theorem dX5_join_47 : decode cX5_join 47 = .ok (.iload 5, 2) := by decide +kernel
theorem dX5_join_49 : decode cX5_join 49 = .ok (.iload_n 3, 1) := by decide +kernel
theorem dX5_join_50 : decode cX5_join 50 = .ok (.invokevirtual 20, 3) := by decide +kernel
theorem dX5_join_53 : decode cX5_join 53 = .ok (.iinc 5 1, 3) := by decide +kernel
theorem dX5_join_56 : decode cX5_join 56 = .ok (.goto (-34), 3) := by decide +kernel
theorem dX5_join_59 : decode cX5_join 59 = .ok (.return_, 1) := by decide +kernel
set_option maxRecDepth 20000 in
theorem ggX6_init_X1_init : GoodIn wsX6_init wsX1_init := goodIn_r _ [30, 31, 2, 3, 32, 33, 34, 35, 36, 18, 19, 37, 38, 39, 40, 41, 42, 43, 44, 45, 46, 47, 48, 49, 50, 51, 52, 53, 110, 86, 87, 88, 101] (by decide +kernel) (by decide +kernel)
set_option maxRecDepth 20000 in
theorem gX6_init_X1_init_n11 : GoodIn wsX6_init (wsX1_init) := ggX6_init_X1_init
set_option maxRecDepth 20000 in
theorem ggX6_init_X5_init : GoodIn wsX6_init wsX5_init := goodIn_r _ [56, 57, 2, 3, 58, 33, 34, 59, 60, 39, 40, 41, 42, 43, 44, 45, 46, 47, 61, 62, 63, 64, 110, 99] (by decide +kernel) (by decide +kernel)
set_option maxRecDepth 20000 in
theorem gX6_init_X5_init : GoodIn wsX6_init (wsX5_init) := ggX6_init_X5_init
set_option maxRecDepth 20000 in
theorem ggX6_init_X0_init : GoodIn wsX6_init wsX0_init := goodIn_r _ [67, 68, 2, 3, 69, 33, 34, 70, 71, 39, 40, 41, 42, 43, 44, 45, 46, 47, 72, 73, 74, 75, 110, 100] (by decide +kernel) (by decide +kernel)
set_option maxRecDepth 20000 in
theorem gX6_init_X0_init : GoodIn wsX6_init (wsX0_init) := ggX6_init_X0_init
set_option maxRecDepth 20000 in
theorem ggX6_init_X2_init : GoodIn wsX6_init wsX2_init := goodIn_r _ [49, 50, 2, 3, 51, 33, 34, 52, 53, 39, 40, 41, 42, 43, 44, 45, 46, 47, 110, 101] (by decide +kernel) (by decide +kernel)
set_option maxRecDepth 20000 in
theorem gX6_init_X2_init_n36 : GoodIn wsX6_init (wsX2_init) := ggX6_init_X2_init
set_option maxRecDepth 20000 in
theorem ggX6_init_X3_init : GoodIn wsX6_init wsX3_init := goodIn_r _ [77, 78, 2, 3, 79, 33, 34, 80, 81, 82, 83, 84, 85, 39, 40, 41, 42, 43, 44, 45, 46, 47, 110, 102, 103, 104, 105, 106, 107, 108, 109] (by decide +kernel) (by decide +kernel)
set_option maxRecDepth 20000 in
theorem gX6_init_X3_init_n49 : GoodIn wsX6_init (wsX3_init) := ggX6_init_X3_init
theorem dX6_init_0 : decode cX6_init 0 = .ok (.aload_n 0, 1) := by decide +kernel
theorem dX6_init_1 : decode cX6_init 1 = .ok (.invokespecial 3, 3) := by decide +kernel
theorem dX6_init_4 : decode cX6_init 4 = .ok (.aload_n 0, 1) := by decide +kernel
theorem dX6_init_5 : decode cX6_init 5 = .ok (.new 9, 3) := by decide +kernel
theorem dX6_init_8 : decode cX6_init 8 = .ok (.dup, 1) := by decide +kernel
theorem dX6_init_9 : decode cX6_init 9 = .ok (.invokespecial 11, 3) := by decide +kernel
theorem dX6_init_12 : decode cX6_init 12 = .ok (.putfield 12, 3) := by decide +kernel
theorem dX6_init_15 : decode cX6_init 15 = .ok (.aload_n 0, 1) := by decide +kernel
theorem dX6_init_16 : decode cX6_init 16 = .ok (.iconst 4, 1) := by decide +kernel
theorem dX6_init_17 : decode cX6_init 17 = .ok (.anewarray 9, 3) := by decide +kernel
theorem dX6_init_20 : decode cX6_init 20 = .ok (.putfield 16, 3) := by decide +kernel
theorem dX6_init_23 : decode cX6_init 23 = .ok (.aload_n 0, 1) := by decide +kernel
theorem dX6_init_24 : decode cX6_init 24 = .ok (.new 20, 3) := by decide +kernel
theorem dX6_init_27 : decode cX6_init 27 = .ok (.dup, 1) := by decide +kernel
theorem dX6_init_28 : decode cX6_init 28 = .ok (.invokespecial 22, 3) := by decide +kernel
theorem dX6_init_31 : decode cX6_init 31 = .ok (.putfield 23, 3) := by decide +kernel
theorem dX6_init_34 : decode cX6_init 34 = .ok (.aload_n 0, 1) := by decide +kernel
theorem dX6_init_35 : decode cX6_init 35 = .ok (.new 27, 3) := by decide +kernel
theorem dX6_init_38 : decode cX6_init 38 = .ok (.dup, 1) := by decide +kernel
theorem dX6_init_39 : decode cX6_init 39 = .ok (.invokespecial 29, 3) := by decide +kernel
theorem dX6_init_42 : decode cX6_init 42 = .ok (.putfield 30, 3) := by decide +kernel
theorem dX6_init_45 : decode cX6_init 45 = .ok (.aload_n 0, 1) := by decide +kernel
theorem dX6_init_46 : decode cX6_init 46 = .ok (.new 34, 3) := by decide +kernel
theorem dX6_init_49 : decode cX6_init 49 = .ok (.dup, 1) := by decide +kernel
theorem dX6_init_50 : decode cX6_init 50 = .ok (.invokespecial 36, 3) := by decide +kernel
theorem dX6_init_53 : decode cX6_init 53 = .ok (.putfield 37, 3) := by decide +kernel
theorem dX6_init_56 : decode cX6_init 56 = .ok (.aload_n 0, 1) := by decide +kernel
theorem dX6_init_57 : decode cX6_init 57 = .ok (.new 34, 3) := by decide +kernel
theorem dX6_init_60 : decode cX6_init 60 = .ok (.dup, 1) := by decide +kernel
theorem dX6_init_61 : decode cX6_init 61 = .ok (.invokespecial 36, 3) := by decide +kernel
theorem dX6_init_64 : decode cX6_init 64 = .ok (.putfield 41, 3) := by decide +kernel
theorem dX6_init_67 : decode cX6_init 67 = .ok (.aload_n 0, 1) := by decide +kernel
theorem dX6_init_68 : decode cX6_init 68 = .ok (.new 34, 3) := by decide +kernel
theorem dX6_init_71 : decode cX6_init 71 = .ok (.dup, 1) := by decide +kernel
theorem dX6_init_72 : decode cX6_init 72 = .ok (.invokespecial 36, 3) := by decide +kernel
theorem dX6_init_75 : decode cX6_init 75 = .ok (.putfield 44, 3) := by decide +kernel
theorem dX6_init_78 : decode cX6_init 78 = .ok (.aload_n 0, 1) := by decide +kernel
theorem dX6_init_79 : decode cX6_init 79 = .ok (.new 47, 3) := by decide +kernel
theorem dX6_init_82 : decode cX6_init 82 = .ok (.dup, 1) := by decide +kernel
theorem dX6_init_83 : decode cX6_init 83 = .ok (.invokespecial 49, 3) := by decide +kernel
theorem dX6_init_86 : decode cX6_init 86 = .ok (.putfield 50, 3) := by decide +kernel
theorem dX6_init_89 : decode cX6_init 89 = .ok (.aload_n 0, 1) := by decide +kernel
theorem dX6_init_90 : decode cX6_init 90 = .ok (.iconst (-1), 1) := by decide +kernel
theorem dX6_init_91 : decode cX6_init 91 = .ok (.putfield 54, 3) := by decide +kernel
theorem dX6_init_94 : decode cX6_init 94 = .ok (.aload_n 0, 1) := by decide +kernel
theorem dX6_init_95 : decode cX6_init 95 = .ok (.iconst 0, 1) := by decide +kernel
theorem dX6_init_96 : decode cX6_init 96 = .ok (.putfield 58, 3) := by decide +kernel
theorem dX6_init_99 : decode cX6_init 99 = .ok (.iconst 0, 1) := by decide +kernel
theorem dX6_init_100 : decode cX6_init 100 = .ok (.istore_n 1, 1) := by decide +kernel
theorem dX6_init_101 : decode cX6_init 101 = .ok (.iload_n 1, 1) := by decide +kernel
theorem dX6_init_102 : decode cX6_init 102 = .ok (.aload_n 0, 1) := by decide +kernel
theorem dX6_init_103 : decode cX6_init 103 = .ok (.getfield 16, 3) := by decide +kernel
theorem dX6_init_106 : decode cX6_init 106 = .ok (.arraylength, 1) := by decide +kernel
theorem dX6_init_107 : decode cX6_init 107 = .ok (.if_icmp .ge 33, 3) := by decide +kernel
theorem dX6_init_110 : decode cX6_init 110 = .ok (.aload_n 0, 1) := by decide +kernel
theorem dX6_init_111 : decode cX6_init 111 = .ok (.getfield 16, 3) := by decide +kernel
theorem dX6_init_114 : decode cX6_init 114 = .ok (.iload_n 1, 1) := by decide +kernel
theorem dX6_init_115 : decode cX6_init 115 = .ok (.iload_n 1, 1) := by decide +kernel
theorem dX6_init_116 : decode cX6_init 116 = .ok (.ifCond .ne 10, 3) := by decide +kernel
theorem dX6_init_119 : decode cX6_init 119 = .ok (.aload_n 0, 1) := by decide +kernel
theorem dX6_init_120 : decode cX6_init 120 = .ok (.getfield 12, 3) := by decide +kernel
theorem dX6_init_123 : decode cX6_init 123 = .ok (.goto 10, 3) := by decide +kernel
theorem dX6_init_126 : decode cX6_init 126 = .ok (.new 9, 3) := by decide +kernel
theorem dX6_init_129 : decode cX6_init 129 = .ok (.dup, 1) := by decide +kernel
theorem dX6_init_130 : decode cX6_init 130 = .ok (.invokespecial 11, 3) := by decide +kernel
theorem dX6_init_133 : decode cX6_init 133 = .ok (.aastore, 1) := by decide +kernel
theorem dX6_init_134 : decode cX6_init 134 = .ok (.iinc 1 1, 3) := by decide +kernel
theorem dX6_init_137 : decode cX6_init 137 = .ok (.goto (-36), 3) := by decide +kernel
theorem dX6_init_140 : decode cX6_init 140 = .ok (.return_, 1) := by decide +kernel
set_option maxRecDepth 20000 in
theorem ggX6_addIdea_X6_mapAt : GoodIn wsX6_addIdea wsX6_mapAt := goodIn_ca (goodIn_r _ [7, 8, 9, 10, 30, 31, 32, 33, 34, 35, 36, 37, 38, 39] (by decide +kernel) (by decide +kernel)) (goodIn_sub (fun _ h => List.mem_cons_of_mem _ (List.mem_append_right _ h)) (by decide +kernel))
set_option maxRecDepth 20000 in
theorem gX6_addIdea_X6_mapAt : GoodIn wsX6_addIdea (wsV RX6 61 RX6 yX6_mapAt wsX6_mapAt) := goodIn_app (goodIn_of _ (by decide +kernel)) ggX6_addIdea_X6_mapAt
set_option maxRecDepth 20000 in
theorem ggX6_addIdea_X6_requireWord : GoodIn wsX6_addIdea wsX6_requireWord := goodIn_ca (goodIn_r _ [13, 8, 9] (by decide +kernel) (by decide +kernel)) (goodIn_sub (fun _ h => List.mem_cons_of_mem _ (List.mem_append_right _ h)) (by decide +kernel))
set_option maxRecDepth 20000 in
theorem gX6_addIdea_X6_requireWord : GoodIn wsX6_addIdea (va_wsS RX6 65 yX6_requireWord wsX6_requireWord) := goodIn_app (goodIn_of _ (by decide +kernel)) ggX6_addIdea_X6_requireWord
set_option maxRecDepth 20000 in
theorem ggX6_addIdea_X1_add : GoodIn wsX6_addIdea wsX1_add := goodIn_r _ [18, 19, 20, 21, 22, 23, 24, 25, 26, 27, 28, 29, 40] (by decide +kernel) (by decide +kernel)
set_option maxRecDepth 20000 in
theorem gX6_addIdea_X1_add : GoodIn wsX6_addIdea (wsV RX6 79 RX1 yX1_add wsX1_add) := goodIn_app (goodIn_of _ (by decide +kernel)) ggX6_addIdea_X1_add
theorem dX6_addIdea_0 : decode cX6_addIdea 0 = .ok (.aload_n 0, 1) := by decide +kernel
theorem dX6_addIdea_1 : decode cX6_addIdea 1 = .ok (.iload_n 1, 1) := by decide +kernel
theorem dX6_addIdea_2 : decode cX6_addIdea 2 = .ok (.invokevirtual 61, 3) := by decide +kernel
theorem dX6_addIdea_5 : decode cX6_addIdea 5 = .ok (.astore_n 3, 1) := by decide +kernel
theorem dX6_addIdea_6 : decode cX6_addIdea 6 = .ok (.iload_n 2, 1) := by decide +kernel
theorem dX6_addIdea_7 : decode cX6_addIdea 7 = .ok (.invokestatic 65, 3) := by decide +kernel
theorem dX6_addIdea_10 : decode cX6_addIdea 10 = .ok (.aload_n 3, 1) := by decide +kernel
theorem dX6_addIdea_11 : decode cX6_addIdea 11 = .ok (.getfield 69, 3) := by decide +kernel
theorem dX6_addIdea_14 : decode cX6_addIdea 14 = .ok (.iconst 5, 1) := by decide +kernel
theorem dX6_addIdea_15 : decode cX6_addIdea 15 = .ok (.if_icmp .lt 13, 3) := by decide +kernel
theorem dX6_addIdea_18 : decode cX6_addIdea 18 = .ok (.new 72, 3) := by decide +kernel
theorem dX6_addIdea_21 : decode cX6_addIdea 21 = .ok (.dup, 1) := by decide +kernel
theorem dX6_addIdea_22 : decode cX6_addIdea 22 = .ok (.ldc 74, 2) := by decide +kernel
theorem dX6_addIdea_24 : decode cX6_addIdea 24 = .ok (.invokespecial 76, 3) := by decide +kernel
theorem dX6_addIdea_27 : decode cX6_addIdea 27 = .ok (.athrow, 1) := by decide +kernel
theorem dX6_addIdea_28 : decode cX6_addIdea 28 = .ok (.aload_n 3, 1) := by decide +kernel
theorem dX6_addIdea_29 : decode cX6_addIdea 29 = .ok (.iload_n 2, 1) := by decide +kernel
theorem dX6_addIdea_30 : decode cX6_addIdea 30 = .ok (.invokevirtual 79, 3) := by decide +kernel
theorem dX6_addIdea_33 : decode cX6_addIdea 33 = .ok (.ireturn, 1) := by decide +kernel
set_option maxRecDepth 20000 in
theorem ggX6_link_X6_mapAt : GoodIn wsX6_link wsX6_mapAt := goodIn_ca (goodIn_r _ [5, 6, 7, 8, 47, 48, 49, 50, 51, 52, 53, 54, 55, 56] (by decide +kernel) (by decide +kernel)) (goodIn_sub (fun _ h => List.mem_cons_of_mem _ (List.mem_append_left _ (List.mem_append_right _ h))) (by decide +kernel))
set_option maxRecDepth 20000 in
theorem gX6_link_X6_mapAt : GoodIn wsX6_link (wsV RX6 61 RX6 yX6_mapAt wsX6_mapAt) := goodIn_app (goodIn_of _ (by decide +kernel)) ggX6_link_X6_mapAt
set_option maxRecDepth 20000 in
theorem ggX6_link_X6_requireLink : GoodIn wsX6_link wsX6_requireLink := goodIn_ca (goodIn_ca (goodIn_r _ [11, 12, 13, 14, 15, 4, 16, 6, 7, 17, 18, 19, 44, 45, 46] (by decide +kernel) (by decide +kernel)) (goodIn_sub (fun _ h => List.mem_cons_of_mem _ (List.mem_append_right _ h)) (by decide +kernel))) (goodIn_sub (fun _ h => List.mem_cons_of_mem _ (List.mem_append_left _ (List.mem_append_right _ h))) (by decide +kernel))
set_option maxRecDepth 20000 in
theorem gX6_link_X6_requireLink : GoodIn wsX6_link (va_wsS RX6 83 yX6_requireLink wsX6_requireLink) := goodIn_app (goodIn_of _ (by decide +kernel)) ggX6_link_X6_requireLink
set_option maxRecDepth 20000 in
theorem ggX6_link_X2_toggle : GoodIn wsX6_link wsX2_toggle := goodIn_r _ [24, 25, 26, 27, 28, 23, 29, 30, 31, 32, 33, 34, 35, 36, 37, 38, 39, 40, 41, 42, 43, 57, 58] (by decide +kernel) (by decide +kernel)
set_option maxRecDepth 20000 in
theorem gX6_link_X2_toggle : GoodIn wsX6_link (wsV RX6 90 RX2 yX2_toggle wsX2_toggle) := goodIn_app (goodIn_of _ (by decide +kernel)) ggX6_link_X2_toggle
theorem dX6_link_0 : decode cX6_link 0 = .ok (.aload_n 0, 1) := by decide +kernel
theorem dX6_link_1 : decode cX6_link 1 = .ok (.iload_n 1, 1) := by decide +kernel
theorem dX6_link_2 : decode cX6_link 2 = .ok (.invokevirtual 61, 3) := by decide +kernel
theorem dX6_link_5 : decode cX6_link 5 = .ok (.astore 5, 2) := by decide +kernel
theorem dX6_link_7 : decode cX6_link 7 = .ok (.aload 5, 2) := by decide +kernel
theorem dX6_link_9 : decode cX6_link 9 = .ok (.iload_n 2, 1) := by decide +kernel
theorem dX6_link_10 : decode cX6_link 10 = .ok (.iload_n 3, 1) := by decide +kernel
theorem dX6_link_11 : decode cX6_link 11 = .ok (.iload 4, 2) := by decide +kernel
theorem dX6_link_13 : decode cX6_link 13 = .ok (.invokestatic 83, 3) := by decide +kernel
theorem dX6_link_16 : decode cX6_link 16 = .ok (.aload 5, 2) := by decide +kernel
theorem dX6_link_18 : decode cX6_link 18 = .ok (.getfield 87, 3) := by decide +kernel
theorem dX6_link_21 : decode cX6_link 21 = .ok (.iload_n 2, 1) := by decide +kernel
theorem dX6_link_22 : decode cX6_link 22 = .ok (.iload_n 3, 1) := by decide +kernel
theorem dX6_link_23 : decode cX6_link 23 = .ok (.iload 4, 2) := by decide +kernel
theorem dX6_link_25 : decode cX6_link 25 = .ok (.invokevirtual 90, 3) := by decide +kernel
theorem dX6_link_28 : decode cX6_link 28 = .ok (.ireturn, 1) := by decide +kernel
set_option maxRecDepth 20000 in
theorem ggX6_clear_X6_mapAt : GoodIn wsX6_clear wsX6_mapAt := goodIn_ca (goodIn_r _ [5, 6, 7, 8, 43, 44, 45, 46, 47, 48, 49, 50, 51, 52] (by decide +kernel) (by decide +kernel)) (goodIn_sub (fun _ h => List.mem_cons_of_mem _ (List.mem_append_right _ h)) (by decide +kernel))
set_option maxRecDepth 20000 in
theorem gX6_clear_X6_mapAt : GoodIn wsX6_clear (wsV RX6 61 RX6 yX6_mapAt wsX6_mapAt) := goodIn_app (goodIn_of _ (by decide +kernel)) ggX6_clear_X6_mapAt
set_option maxRecDepth 20000 in
theorem ggX6_clear_X1_removeAll : GoodIn wsX6_clear wsX1_removeAll := goodIn_r _ [13, 14, 15, 16, 17, 18, 19, 20, 21, 22, 23, 24, 25, 26, 27, 28, 29, 30, 31, 32, 33, 34, 35, 36, 37, 38, 39, 40, 41, 42, 53, 54, 55, 56, 57] (by decide +kernel) (by decide +kernel)
set_option maxRecDepth 20000 in
theorem gX6_clear_X1_removeAll : GoodIn wsX6_clear (wsV RX6 94 RX1 yX1_removeAll wsX1_removeAll) := goodIn_app (goodIn_of _ (by decide +kernel)) ggX6_clear_X1_removeAll
theorem dX6_clear_0 : decode cX6_clear 0 = .ok (.aload_n 0, 1) := by decide +kernel
theorem dX6_clear_1 : decode cX6_clear 1 = .ok (.iload_n 1, 1) := by decide +kernel
theorem dX6_clear_2 : decode cX6_clear 2 = .ok (.invokevirtual 61, 3) := by decide +kernel
theorem dX6_clear_5 : decode cX6_clear 5 = .ok (.invokevirtual 94, 3) := by decide +kernel
theorem dX6_clear_8 : decode cX6_clear 8 = .ok (.ireturn, 1) := by decide +kernel
set_option maxRecDepth 20000 in
theorem ggX6_synonyms_X6_requireWord : GoodIn wsX6_synonyms wsX6_requireWord := goodIn_ca (goodIn_r _ [5, 6, 7] (by decide +kernel) (by decide +kernel)) (goodIn_sub (fun _ h => List.mem_cons_of_mem _ (List.mem_append_right _ h)) (by decide +kernel))
set_option maxRecDepth 20000 in
theorem gX6_synonyms_X6_requireWord : GoodIn wsX6_synonyms (va_wsS RX6 65 yX6_requireWord wsX6_requireWord) := goodIn_app (goodIn_of _ (by decide +kernel)) ggX6_synonyms_X6_requireWord
set_option maxRecDepth 20000 in
theorem ggX6_synonyms_X5_alike : GoodIn wsX6_synonyms wsX5_alike := goodIn_r _ [12, 13, 14, 15, 16, 17, 18, 19, 38, 39] (by decide +kernel) (by decide +kernel)
set_option maxRecDepth 20000 in
theorem gX6_synonyms_X5_alike : GoodIn wsX6_synonyms (wsV RX6 98 RX5 yX5_alike wsX5_alike) := goodIn_app (goodIn_of _ (by decide +kernel)) ggX6_synonyms_X5_alike
set_option maxRecDepth 20000 in
theorem ggX6_synonyms_X5_join : GoodIn wsX6_synonyms wsX5_join := goodIn_r _ [23, 13, 14, 15, 16, 17, 18, 19, 24, 25, 26, 27, 38, 39] (by decide +kernel) (by decide +kernel)
set_option maxRecDepth 20000 in
theorem gX6_synonyms_X5_join : GoodIn wsX6_synonyms (wsV RX6 102 RX5 yX5_join wsX5_join) := goodIn_app (goodIn_of _ (by decide +kernel)) ggX6_synonyms_X5_join
theorem dX6_synonyms_0 : decode cX6_synonyms 0 = .ok (.iload_n 1, 1) := by decide +kernel
theorem dX6_synonyms_1 : decode cX6_synonyms 1 = .ok (.invokestatic 65, 3) := by decide +kernel
theorem dX6_synonyms_4 : decode cX6_synonyms 4 = .ok (.iload_n 2, 1) := by decide +kernel
theorem dX6_synonyms_5 : decode cX6_synonyms 5 = .ok (.invokestatic 65, 3) := by decide +kernel
theorem dX6_synonyms_8 : decode cX6_synonyms 8 = .ok (.aload_n 0, 1) := by decide +kernel
theorem dX6_synonyms_9 : decode cX6_synonyms 9 = .ok (.getfield 23, 3) := by decide +kernel
theorem dX6_synonyms_12 : decode cX6_synonyms 12 = .ok (.iload_n 1, 1) := by decide +kernel
theorem dX6_synonyms_13 : decode cX6_synonyms 13 = .ok (.iload_n 2, 1) := by decide +kernel
theorem dX6_synonyms_14 : decode cX6_synonyms 14 = .ok (.invokevirtual 98, 3) := by decide +kernel
theorem dX6_synonyms_17 : decode cX6_synonyms 17 = .ok (.istore_n 3, 1) := by decide +kernel
theorem dX6_synonyms_18 : decode cX6_synonyms 18 = .ok (.aload_n 0, 1) := by decide +kernel
theorem dX6_synonyms_19 : decode cX6_synonyms 19 = .ok (.getfield 23, 3) := by decide +kernel
theorem dX6_synonyms_22 : decode cX6_synonyms 22 = .ok (.iload_n 1, 1) := by decide +kernel
theorem dX6_synonyms_23 : decode cX6_synonyms 23 = .ok (.iload_n 2, 1) := by decide +kernel
theorem dX6_synonyms_24 : decode cX6_synonyms 24 = .ok (.invokevirtual 102, 3) := by decide +kernel
theorem dX6_synonyms_27 : decode cX6_synonyms 27 = .ok (.iload_n 3, 1) := by decide +kernel
theorem dX6_synonyms_28 : decode cX6_synonyms 28 = .ok (.ireturn, 1) := by decide +kernel
set_option maxRecDepth 20000 in
theorem ggX6_chain_X6_requireKind : GoodIn wsX6_chain wsX6_requireKind := goodIn_ca (goodIn_r _ [5, 6, 7] (by decide +kernel) (by decide +kernel)) (goodIn_sub (fun _ h => List.mem_cons_of_mem _ (List.mem_append_right _ h)) (by decide +kernel))
set_option maxRecDepth 20000 in
theorem gX6_chain_X6_requireKind : GoodIn wsX6_chain (va_wsS RX6 106 yX6_requireKind wsX6_requireKind) := goodIn_app (goodIn_of _ (by decide +kernel)) ggX6_chain_X6_requireKind
set_option maxRecDepth 20000 in
theorem ggX6_chain_X0_replace : GoodIn wsX6_chain wsX0_replace := goodIn_r _ [12, 13, 14, 15, 16, 17, 18, 19, 20, 21, 22, 23, 34, 35] (by decide +kernel) (by decide +kernel)
set_option maxRecDepth 20000 in
theorem gX6_chain_X0_replace : GoodIn wsX6_chain (wsV RX6 109 RX0 yX0_replace wsX0_replace) := goodIn_app (goodIn_of _ (by decide +kernel)) ggX6_chain_X0_replace
theorem dX6_chain_0 : decode cX6_chain 0 = .ok (.iload_n 1, 1) := by decide +kernel
theorem dX6_chain_1 : decode cX6_chain 1 = .ok (.invokestatic 106, 3) := by decide +kernel
theorem dX6_chain_4 : decode cX6_chain 4 = .ok (.iload_n 2, 1) := by decide +kernel
theorem dX6_chain_5 : decode cX6_chain 5 = .ok (.invokestatic 106, 3) := by decide +kernel
theorem dX6_chain_8 : decode cX6_chain 8 = .ok (.iload_n 3, 1) := by decide +kernel
theorem dX6_chain_9 : decode cX6_chain 9 = .ok (.iconst (-1), 1) := by decide +kernel
theorem dX6_chain_10 : decode cX6_chain 10 = .ok (.if_icmp .eq 7, 3) := by decide +kernel
theorem dX6_chain_13 : decode cX6_chain 13 = .ok (.iload_n 3, 1) := by decide +kernel
theorem dX6_chain_14 : decode cX6_chain 14 = .ok (.invokestatic 106, 3) := by decide +kernel
theorem dX6_chain_17 : decode cX6_chain 17 = .ok (.aload_n 0, 1) := by decide +kernel
theorem dX6_chain_18 : decode cX6_chain 18 = .ok (.getfield 30, 3) := by decide +kernel
theorem dX6_chain_21 : decode cX6_chain 21 = .ok (.iload_n 1, 1) := by decide +kernel
theorem dX6_chain_22 : decode cX6_chain 22 = .ok (.iload_n 2, 1) := by decide +kernel
theorem dX6_chain_23 : decode cX6_chain 23 = .ok (.iload_n 3, 1) := by decide +kernel
theorem dX6_chain_24 : decode cX6_chain 24 = .ok (.invokevirtual 109, 3) := by decide +kernel
theorem dX6_chain_27 : decode cX6_chain 27 = .ok (.ireturn, 1) := by decide +kernel
set_option maxRecDepth 20000 in
theorem ggX6_ideas_X6_mapAt : GoodIn wsX6_ideas wsX6_mapAt := goodIn_ca (goodIn_r _ [5, 6, 7, 8, 12, 13, 14, 15, 16, 17, 18, 19, 20, 21] (by decide +kernel) (by decide +kernel)) (goodIn_sub (fun _ h => List.mem_cons_of_mem _ (List.mem_append_right _ h)) (by decide +kernel))
set_option maxRecDepth 20000 in
theorem gX6_ideas_X6_mapAt : GoodIn wsX6_ideas (wsV RX6 61 RX6 yX6_mapAt wsX6_mapAt) := goodIn_app (goodIn_of _ (by decide +kernel)) ggX6_ideas_X6_mapAt
theorem dX6_ideas_0 : decode cX6_ideas 0 = .ok (.aload_n 0, 1) := by decide +kernel
theorem dX6_ideas_1 : decode cX6_ideas 1 = .ok (.iload_n 1, 1) := by decide +kernel
theorem dX6_ideas_2 : decode cX6_ideas 2 = .ok (.invokevirtual 61, 3) := by decide +kernel
theorem dX6_ideas_5 : decode cX6_ideas 5 = .ok (.getfield 69, 3) := by decide +kernel
theorem dX6_ideas_8 : decode cX6_ideas 8 = .ok (.ireturn, 1) := by decide +kernel
set_option maxRecDepth 20000 in
theorem ggX6_links_X6_mapAt : GoodIn wsX6_links wsX6_mapAt := goodIn_ca (goodIn_r _ [5, 6, 7, 8, 31, 32, 33, 34, 35, 36, 37, 38, 39, 40] (by decide +kernel) (by decide +kernel)) (goodIn_sub (fun _ h => List.mem_cons_of_mem _ (List.mem_append_right _ h)) (by decide +kernel))
set_option maxRecDepth 20000 in
theorem gX6_links_X6_mapAt : GoodIn wsX6_links (wsV RX6 61 RX6 yX6_mapAt wsX6_mapAt) := goodIn_app (goodIn_of _ (by decide +kernel)) ggX6_links_X6_mapAt
set_option maxRecDepth 20000 in
theorem ggX6_links_X2_count : GoodIn wsX6_links wsX2_count := goodIn_r _ [13, 14, 15, 16, 17, 18, 19, 20, 21, 22, 23, 24, 25, 26, 27, 41, 42] (by decide +kernel) (by decide +kernel)
set_option maxRecDepth 20000 in
theorem gX6_links_X2_count : GoodIn wsX6_links (wsV RX6 113 RX2 yX2_count wsX2_count) := goodIn_app (goodIn_of _ (by decide +kernel)) ggX6_links_X2_count
theorem dX6_links_0 : decode cX6_links 0 = .ok (.aload_n 0, 1) := by decide +kernel
theorem dX6_links_1 : decode cX6_links 1 = .ok (.iload_n 1, 1) := by decide +kernel
theorem dX6_links_2 : decode cX6_links 2 = .ok (.invokevirtual 61, 3) := by decide +kernel
theorem dX6_links_5 : decode cX6_links 5 = .ok (.getfield 87, 3) := by decide +kernel
theorem dX6_links_8 : decode cX6_links 8 = .ok (.invokevirtual 113, 3) := by decide +kernel
theorem dX6_links_11 : decode cX6_links 11 = .ok (.ireturn, 1) := by decide +kernel
set_option maxRecDepth 20000 in
theorem ggX6_held_X6_mapAt : GoodIn wsX6_held wsX6_mapAt := goodIn_ca (goodIn_r _ [7, 8, 9, 10, 66, 67, 68, 69, 70, 71, 72, 73, 74, 75] (by decide +kernel) (by decide +kernel)) (goodIn_sub (fun _ h => List.mem_cons_of_mem _ (List.mem_append_right _ h)) (by decide +kernel))
set_option maxRecDepth 20000 in
theorem gX6_held_X6_mapAt : GoodIn wsX6_held (wsV RX6 61 RX6 yX6_mapAt wsX6_mapAt) := goodIn_app (goodIn_of _ (by decide +kernel)) ggX6_held_X6_mapAt
set_option maxRecDepth 20000 in
theorem ggX6_held_X2_become : GoodIn wsX6_held wsX2_become := goodIn_r _ [15, 16, 17, 18, 19, 20, 21, 22, 23, 24, 25, 26, 79, 80] (by decide +kernel) (by decide +kernel)
set_option maxRecDepth 20000 in
theorem gX6_held_X2_become : GoodIn wsX6_held (wsV RX6 116 RX2 yX2_become wsX2_become) := goodIn_app (goodIn_of _ (by decide +kernel)) ggX6_held_X2_become
set_option maxRecDepth 20000 in
theorem ggX6_held_X2_addAllImplied : GoodIn wsX6_held wsX2_addAllImplied := goodIn_r _ [30, 31, 32, 33, 14, 34, 35, 36, 37, 38, 16, 39, 24, 25, 20, 26, 22, 40, 41, 42, 43, 44, 45, 46, 47, 48, 49, 50, 51, 52, 53, 54, 79, 80, 81] (by decide +kernel) (by decide +kernel)
set_option maxRecDepth 20000 in
theorem gX6_held_X2_addAllImplied : GoodIn wsX6_held (wsV RX6 120 RX2 yX2_addAllImplied wsX2_addAllImplied) := goodIn_app (goodIn_of _ (by decide +kernel)) ggX6_held_X2_addAllImplied
set_option maxRecDepth 20000 in
theorem ggX6_held_X2_count : GoodIn wsX6_held wsX2_count := goodIn_r _ [58, 16, 39, 24, 25, 20, 26, 22, 59, 60, 61, 62, 63, 64, 65, 79, 80] (by decide +kernel) (by decide +kernel)
set_option maxRecDepth 20000 in
theorem gX6_held_X2_count : GoodIn wsX6_held (wsV RX6 113 RX2 yX2_count wsX2_count) := goodIn_app (goodIn_of _ (by decide +kernel)) ggX6_held_X2_count
theorem dX6_held_0 : decode cX6_held 0 = .ok (.aload_n 0, 1) := by decide +kernel
theorem dX6_held_1 : decode cX6_held 1 = .ok (.getfield 37, 3) := by decide +kernel
theorem dX6_held_4 : decode cX6_held 4 = .ok (.aload_n 0, 1) := by decide +kernel
theorem dX6_held_5 : decode cX6_held 5 = .ok (.iload_n 1, 1) := by decide +kernel
theorem dX6_held_6 : decode cX6_held 6 = .ok (.invokevirtual 61, 3) := by decide +kernel
theorem dX6_held_9 : decode cX6_held 9 = .ok (.getfield 87, 3) := by decide +kernel
theorem dX6_held_12 : decode cX6_held 12 = .ok (.invokevirtual 116, 3) := by decide +kernel
theorem dX6_held_15 : decode cX6_held 15 = .ok (.aload_n 0, 1) := by decide +kernel
theorem dX6_held_16 : decode cX6_held 16 = .ok (.getfield 37, 3) := by decide +kernel
theorem dX6_held_19 : decode cX6_held 19 = .ok (.aload_n 0, 1) := by decide +kernel
theorem dX6_held_20 : decode cX6_held 20 = .ok (.getfield 30, 3) := by decide +kernel
theorem dX6_held_23 : decode cX6_held 23 = .ok (.invokevirtual 120, 3) := by decide +kernel
theorem dX6_held_26 : decode cX6_held 26 = .ok (.aload_n 0, 1) := by decide +kernel
theorem dX6_held_27 : decode cX6_held 27 = .ok (.getfield 37, 3) := by decide +kernel
theorem dX6_held_30 : decode cX6_held 30 = .ok (.invokevirtual 113, 3) := by decide +kernel
theorem dX6_held_33 : decode cX6_held 33 = .ok (.ireturn, 1) := by decide +kernel
set_option maxRecDepth 20000 in
theorem ggX6_holds_X6_mapAt : GoodIn wsX6_holds wsX6_mapAt := goodIn_ca (goodIn_r _ [7, 8, 9, 10, 70, 71, 72, 73, 74, 75, 76, 77, 78, 79] (by decide +kernel) (by decide +kernel)) (goodIn_sub (fun _ h => List.mem_cons_of_mem _ (List.mem_append_left _ (List.mem_append_right _ h))) (by decide +kernel))
set_option maxRecDepth 20000 in
theorem gX6_holds_X6_mapAt : GoodIn wsX6_holds (wsV RX6 61 RX6 yX6_mapAt wsX6_mapAt) := goodIn_app (goodIn_of _ (by decide +kernel)) ggX6_holds_X6_mapAt
set_option maxRecDepth 20000 in
theorem ggX6_holds_X6_requireLink : GoodIn wsX6_holds wsX6_requireLink := goodIn_ca (goodIn_ca (goodIn_r _ [13, 14, 15, 16, 17, 6, 18, 8, 9, 19, 20, 21, 80, 81, 82] (by decide +kernel) (by decide +kernel)) (goodIn_sub (fun _ h => List.mem_cons_of_mem _ (List.mem_append_right _ h)) (by decide +kernel))) (goodIn_sub (fun _ h => List.mem_cons_of_mem _ (List.mem_append_left _ (List.mem_append_right _ h))) (by decide +kernel))
set_option maxRecDepth 20000 in
theorem gX6_holds_X6_requireLink : GoodIn wsX6_holds (va_wsS RX6 83 yX6_requireLink wsX6_requireLink) := goodIn_app (goodIn_of _ (by decide +kernel)) ggX6_holds_X6_requireLink
set_option maxRecDepth 20000 in
theorem ggX6_holds_X2_become : GoodIn wsX6_holds wsX2_become := goodIn_r _ [26, 27, 28, 29, 30, 31, 32, 33, 34, 35, 36, 37, 83, 84] (by decide +kernel) (by decide +kernel)
set_option maxRecDepth 20000 in
theorem gX6_holds_X2_become : GoodIn wsX6_holds (wsV RX6 116 RX2 yX2_become wsX2_become) := goodIn_app (goodIn_of _ (by decide +kernel)) ggX6_holds_X2_become
set_option maxRecDepth 20000 in
theorem ggX6_holds_X2_addAllImplied : GoodIn wsX6_holds wsX2_addAllImplied := goodIn_r _ [41, 42, 43, 44, 25, 45, 46, 47, 48, 49, 27, 50, 35, 36, 31, 37, 33, 51, 52, 53, 54, 55, 56, 57, 58, 59, 60, 61, 62, 63, 64, 65, 83, 84, 85] (by decide +kernel) (by decide +kernel)
set_option maxRecDepth 20000 in
theorem gX6_holds_X2_addAllImplied : GoodIn wsX6_holds (wsV RX6 120 RX2 yX2_addAllImplied wsX2_addAllImplied) := goodIn_app (goodIn_of _ (by decide +kernel)) ggX6_holds_X2_addAllImplied
set_option maxRecDepth 20000 in
theorem ggX6_holds_X2_contains : GoodIn wsX6_holds wsX2_contains := goodIn_r _ [69, 46, 47, 48, 25, 49, 27, 50, 35, 36, 31, 37, 33, 83, 84] (by decide +kernel) (by decide +kernel)
set_option maxRecDepth 20000 in
theorem gX6_holds_X2_contains : GoodIn wsX6_holds (wsV RX6 124 RX2 yX2_contains wsX2_contains) := goodIn_app (goodIn_of _ (by decide +kernel)) ggX6_holds_X2_contains
theorem dX6_holds_0 : decode cX6_holds 0 = .ok (.aload_n 0, 1) := by decide +kernel
theorem dX6_holds_1 : decode cX6_holds 1 = .ok (.iload_n 1, 1) := by decide +kernel
theorem dX6_holds_2 : decode cX6_holds 2 = .ok (.invokevirtual 61, 3) := by decide +kernel
theorem dX6_holds_5 : decode cX6_holds 5 = .ok (.astore 5, 2) := by decide +kernel
theorem dX6_holds_7 : decode cX6_holds 7 = .ok (.aload 5, 2) := by decide +kernel
theorem dX6_holds_9 : decode cX6_holds 9 = .ok (.iload_n 2, 1) := by decide +kernel
theorem dX6_holds_10 : decode cX6_holds 10 = .ok (.iload_n 3, 1) := by decide +kernel
theorem dX6_holds_11 : decode cX6_holds 11 = .ok (.iload 4, 2) := by decide +kernel
theorem dX6_holds_13 : decode cX6_holds 13 = .ok (.invokestatic 83, 3) := by decide +kernel
theorem dX6_holds_16 : decode cX6_holds 16 = .ok (.aload_n 0, 1) := by decide +kernel
theorem dX6_holds_17 : decode cX6_holds 17 = .ok (.getfield 37, 3) := by decide +kernel
theorem dX6_holds_20 : decode cX6_holds 20 = .ok (.aload 5, 2) := by decide +kernel
theorem dX6_holds_22 : decode cX6_holds 22 = .ok (.getfield 87, 3) := by decide +kernel
theorem dX6_holds_25 : decode cX6_holds 25 = .ok (.invokevirtual 116, 3) := by decide +kernel
theorem dX6_holds_28 : decode cX6_holds 28 = .ok (.aload_n 0, 1) := by decide +kernel
theorem dX6_holds_29 : decode cX6_holds 29 = .ok (.getfield 37, 3) := by decide +kernel
theorem dX6_holds_32 : decode cX6_holds 32 = .ok (.aload_n 0, 1) := by decide +kernel
theorem dX6_holds_33 : decode cX6_holds 33 = .ok (.getfield 30, 3) := by decide +kernel
theorem dX6_holds_36 : decode cX6_holds 36 = .ok (.invokevirtual 120, 3) := by decide +kernel
theorem dX6_holds_39 : decode cX6_holds 39 = .ok (.aload_n 0, 1) := by decide +kernel
theorem dX6_holds_40 : decode cX6_holds 40 = .ok (.getfield 37, 3) := by decide +kernel
theorem dX6_holds_43 : decode cX6_holds 43 = .ok (.iload_n 2, 1) := by decide +kernel
theorem dX6_holds_44 : decode cX6_holds 44 = .ok (.iload_n 3, 1) := by decide +kernel
theorem dX6_holds_45 : decode cX6_holds 45 = .ok (.iload 4, 2) := by decide +kernel
theorem dX6_holds_47 : decode cX6_holds 47 = .ok (.invokevirtual 124, 3) := by decide +kernel
theorem dX6_holds_50 : decode cX6_holds 50 = .ok (.ireturn, 1) := by decide +kernel
set_option maxRecDepth 20000 in
theorem ggX6_points_X6_modelAt : GoodIn wsX6_points wsX6_modelAt := goodIn_ca (goodIn_r _ [6, 7, 8, 9, 10, 11, 5, 12, 13, 129, 130, 131, 132, 133, 134, 135, 136, 137, 138] (by decide +kernel) (by decide +kernel)) (goodIn_sub (fun _ h => List.mem_cons_of_mem _ (List.mem_append_right _ h)) (by decide +kernel))
set_option maxRecDepth 20000 in
theorem gX6_points_X6_modelAt : GoodIn wsX6_points (wsV RX6 127 RX6 yX6_modelAt wsX6_modelAt) := goodIn_app (goodIn_of _ (by decide +kernel)) ggX6_points_X6_modelAt
set_option maxRecDepth 20000 in
theorem ggX6_points_X6_prepareMatching : GoodIn wsX6_points wsX6_prepareMatching := goodIn_r _ [17, 18, 19, 20, 1, 21, 22, 23, 24, 25, 26, 27, 28, 29, 30, 31, 32, 33, 34, 35, 36, 37, 38, 39, 40, 41, 42, 43, 44, 45, 46, 47, 48, 49, 50, 51, 52, 53, 54, 55, 56, 57, 58, 59, 60, 61, 62, 63, 64, 65, 66, 67, 68, 69, 70, 71, 72, 73, 74, 75, 76, 77, 78, 79, 80, 81, 82, 83, 84, 85, 86, 87, 88, 89, 90, 91, 92, 93, 94, 95, 96, 97, 98, 99, 100, 101, 102, 5, 103, 104, 105, 106, 107, 108, 109, 110, 111, 112, 113, 129, 130, 131, 132, 133, 134, 135, 136, 137, 138, 139, 140, 141, 142, 143, 144, 145, 146, 147, 148, 149, 150, 151, 152, 153] (by decide +kernel) (by decide +kernel)
set_option maxRecDepth 20000 in
theorem gX6_points_X6_prepareMatching : GoodIn wsX6_points (wsV RX6 130 RX6 yX6_prepareMatching wsX6_prepareMatching) := goodIn_app (goodIn_of _ (by decide +kernel)) ggX6_points_X6_prepareMatching
set_option maxRecDepth 20000 in
theorem ggX6_points_X3_findBest : GoodIn wsX6_points wsX3_findBest := goodIn_r _ [117, 118, 119, 120, 69, 121, 87, 71, 122, 123, 72, 74, 35, 36, 31, 37, 33, 124, 29, 30, 32, 34, 98, 99, 100, 101, 73, 82, 63, 64, 65, 125, 126, 127, 128, 92, 111, 112, 113, 145, 146, 147, 148, 149, 150, 151, 152, 143] (by decide +kernel) (by decide +kernel)
set_option maxRecDepth 20000 in
theorem gX6_points_X3_findBest : GoodIn wsX6_points (wsV RX6 134 RX3 yX3_findBest wsX3_findBest) := goodIn_app (goodIn_of _ (by decide +kernel)) ggX6_points_X3_findBest
theorem dX6_points_0 : decode cX6_points 0 = .ok (.aload_n 0, 1) := by decide +kernel
theorem dX6_points_1 : decode cX6_points 1 = .ok (.aload_n 0, 1) := by decide +kernel
theorem dX6_points_2 : decode cX6_points 2 = .ok (.iload_n 1, 1) := by decide +kernel
theorem dX6_points_3 : decode cX6_points 3 = .ok (.invokevirtual 127, 3) := by decide +kernel
theorem dX6_points_6 : decode cX6_points 6 = .ok (.invokevirtual 130, 3) := by decide +kernel
theorem dX6_points_9 : decode cX6_points 9 = .ok (.aload_n 0, 1) := by decide +kernel
theorem dX6_points_10 : decode cX6_points 10 = .ok (.getfield 50, 3) := by decide +kernel
theorem dX6_points_13 : decode cX6_points 13 = .ok (.iconst (-1), 1) := by decide +kernel
theorem dX6_points_14 : decode cX6_points 14 = .ok (.invokevirtual 134, 3) := by decide +kernel
theorem dX6_points_17 : decode cX6_points 17 = .ok (.ireturn, 1) := by decide +kernel
set_option maxRecDepth 20000 in
theorem ggX6_pointsByTrying_X6_modelAt : GoodIn wsX6_pointsByTrying wsX6_modelAt := goodIn_ca (goodIn_r _ [6, 7, 8, 9, 10, 11, 5, 12, 13, 126, 127, 128, 129, 130, 131, 132, 133, 134, 135] (by decide +kernel) (by decide +kernel)) (goodIn_sub (fun _ h => List.mem_cons_of_mem _ (List.mem_append_right _ h)) (by decide +kernel))
set_option maxRecDepth 20000 in
theorem gX6_pointsByTrying_X6_modelAt : GoodIn wsX6_pointsByTrying (wsV RX6 127 RX6 yX6_modelAt wsX6_modelAt) := goodIn_app (goodIn_of _ (by decide +kernel)) ggX6_pointsByTrying_X6_modelAt
set_option maxRecDepth 20000 in
theorem ggX6_pointsByTrying_X6_prepareMatching : GoodIn wsX6_pointsByTrying wsX6_prepareMatching := goodIn_r _ [17, 18, 19, 20, 1, 21, 22, 23, 24, 25, 26, 27, 28, 29, 30, 31, 32, 33, 34, 35, 36, 37, 38, 39, 40, 41, 42, 43, 44, 45, 46, 47, 48, 49, 50, 51, 52, 53, 54, 55, 56, 57, 58, 59, 60, 61, 62, 63, 64, 65, 66, 67, 68, 69, 70, 71, 72, 73, 74, 75, 76, 77, 78, 79, 80, 81, 82, 83, 84, 85, 86, 87, 88, 89, 90, 91, 92, 93, 94, 95, 96, 97, 98, 99, 100, 101, 102, 5, 103, 104, 105, 106, 107, 108, 109, 110, 111, 112, 113, 126, 127, 128, 129, 130, 131, 132, 133, 134, 135, 136, 137, 138, 139, 140, 141, 142, 143, 144, 145, 146, 147, 148, 149, 150] (by decide +kernel) (by decide +kernel)
set_option maxRecDepth 20000 in
theorem gX6_pointsByTrying_X6_prepareMatching : GoodIn wsX6_pointsByTrying (wsV RX6 130 RX6 yX6_prepareMatching wsX6_prepareMatching) := goodIn_app (goodIn_of _ (by decide +kernel)) ggX6_pointsByTrying_X6_prepareMatching
set_option maxRecDepth 20000 in
theorem ggX6_pointsByTrying_X3_mostByTrying : GoodIn wsX6_pointsByTrying wsX3_mostByTrying := goodIn_r _ [117, 118, 119, 69, 120, 71, 121, 72, 93, 94, 95, 96, 82, 63, 64, 31, 65, 33, 98, 99, 100, 101, 73, 74, 35, 36, 37, 122, 123, 124, 125, 92, 111, 112, 113, 142, 143, 144, 145, 146, 147, 148, 149, 140] (by decide +kernel) (by decide +kernel)
set_option maxRecDepth 20000 in
theorem gX6_pointsByTrying_X3_mostByTrying : GoodIn wsX6_pointsByTrying (wsV RX6 137 RX3 yX3_mostByTrying wsX3_mostByTrying) := goodIn_app (goodIn_of _ (by decide +kernel)) ggX6_pointsByTrying_X3_mostByTrying
theorem dX6_pointsByTrying_0 : decode cX6_pointsByTrying 0 = .ok (.aload_n 0, 1) := by decide +kernel
theorem dX6_pointsByTrying_1 : decode cX6_pointsByTrying 1 = .ok (.aload_n 0, 1) := by decide +kernel
theorem dX6_pointsByTrying_2 : decode cX6_pointsByTrying 2 = .ok (.iload_n 1, 1) := by decide +kernel
theorem dX6_pointsByTrying_3 : decode cX6_pointsByTrying 3 = .ok (.invokevirtual 127, 3) := by decide +kernel
theorem dX6_pointsByTrying_6 : decode cX6_pointsByTrying 6 = .ok (.invokevirtual 130, 3) := by decide +kernel
theorem dX6_pointsByTrying_9 : decode cX6_pointsByTrying 9 = .ok (.aload_n 0, 1) := by decide +kernel
theorem dX6_pointsByTrying_10 : decode cX6_pointsByTrying 10 = .ok (.getfield 50, 3) := by decide +kernel
theorem dX6_pointsByTrying_13 : decode cX6_pointsByTrying 13 = .ok (.invokevirtual 137, 3) := by decide +kernel
theorem dX6_pointsByTrying_16 : decode cX6_pointsByTrying 16 = .ok (.ireturn, 1) := by decide +kernel
set_option maxRecDepth 20000 in
theorem ggX6_mark_X6_modelAt : GoodIn wsX6_mark wsX6_modelAt := goodIn_ca (goodIn_r _ [5, 6, 7, 8, 9, 10, 4, 11, 12, 138, 139, 140, 141, 142, 143, 144, 145, 146, 147] (by decide +kernel) (by decide +kernel)) (goodIn_sub (fun _ h => List.mem_cons_of_mem _ (List.mem_append_right _ h)) (by decide +kernel))
set_option maxRecDepth 20000 in
theorem gX6_mark_X6_modelAt : GoodIn wsX6_mark (wsV RX6 127 RX6 yX6_modelAt wsX6_modelAt) := goodIn_app (goodIn_of _ (by decide +kernel)) ggX6_mark_X6_modelAt
set_option maxRecDepth 20000 in
theorem ggX6_mark_X6_markOf : GoodIn wsX6_mark wsX6_markOf := goodIn_r _ [16, 17, 18, 19, 20, 21, 22, 23, 24, 25, 26, 27, 28, 29, 30, 31, 32, 33, 34, 35, 36, 37, 38, 39, 4, 40, 41, 42, 43, 44, 45, 46, 47, 48, 49, 50, 51, 52, 53, 54, 55, 56, 57, 58, 59, 60, 61, 62, 63, 64, 65, 66, 67, 68, 69, 70, 71, 72, 73, 74, 75, 76, 77, 78, 79, 80, 81, 82, 83, 84, 85, 86, 87, 88, 89, 90, 91, 92, 93, 94, 95, 96, 97, 98, 99, 100, 101, 102, 103, 104, 105, 106, 107, 108, 109, 110, 111, 112, 113, 114, 115, 116, 117, 118, 119, 120, 121, 122, 123, 124, 125, 126, 127, 128, 129, 130, 131, 132, 133, 134, 135, 136, 137, 148, 149, 150, 138, 139, 140, 141, 142, 143, 144, 145, 146, 147, 151, 152, 153, 154, 155, 156, 157, 158, 159, 160, 161, 162] (by decide +kernel) (by decide +kernel)
set_option maxRecDepth 20000 in
theorem gX6_mark_X6_markOf : GoodIn wsX6_mark (wsV RX6 140 RX6 yX6_markOf wsX6_markOf) := goodIn_app (goodIn_of _ (by decide +kernel)) ggX6_mark_X6_markOf
theorem dX6_mark_0 : decode cX6_mark 0 = .ok (.aload_n 0, 1) := by decide +kernel
theorem dX6_mark_1 : decode cX6_mark 1 = .ok (.aload_n 0, 1) := by decide +kernel
theorem dX6_mark_2 : decode cX6_mark 2 = .ok (.iload_n 1, 1) := by decide +kernel
theorem dX6_mark_3 : decode cX6_mark 3 = .ok (.invokevirtual 127, 3) := by decide +kernel
theorem dX6_mark_6 : decode cX6_mark 6 = .ok (.invokevirtual 140, 3) := by decide +kernel
theorem dX6_mark_9 : decode cX6_mark 9 = .ok (.ireturn, 1) := by decide +kernel
set_option maxRecDepth 20000 in
theorem ggX6_bestModel_X2_count : GoodIn wsX6_bestModel wsX2_count := goodIn_r _ [6, 7, 8, 9, 10, 11, 12, 13, 14, 15, 16, 17, 18, 19, 20, 141, 142] (by decide +kernel) (by decide +kernel)
set_option maxRecDepth 20000 in
theorem gX6_bestModel_X2_count : GoodIn wsX6_bestModel (wsV RX6 113 RX2 yX2_count wsX2_count) := goodIn_app (goodIn_of _ (by decide +kernel)) ggX6_bestModel_X2_count
set_option maxRecDepth 20000 in
theorem ggX6_bestModel_X6_markOf : GoodIn wsX6_bestModel wsX6_markOf := goodIn_r _ [25, 26, 2, 3, 4, 5, 6, 7, 8, 9, 10, 11, 12, 13, 14, 15, 16, 17, 18, 19, 20, 27, 28, 29, 24, 30, 31, 32, 33, 34, 35, 36, 37, 38, 39, 40, 41, 42, 43, 44, 45, 46, 47, 48, 49, 50, 51, 52, 53, 54, 55, 56, 57, 58, 59, 60, 61, 62, 63, 64, 65, 66, 67, 68, 69, 70, 71, 72, 73, 74, 75, 76, 77, 78, 79, 80, 81, 82, 83, 84, 85, 86, 87, 88, 89, 90, 91, 92, 93, 94, 95, 96, 97, 98, 99, 100, 101, 102, 103, 104, 105, 106, 107, 108, 109, 110, 111, 112, 113, 114, 115, 116, 117, 118, 119, 120, 121, 122, 123, 124, 125, 126, 127, 138, 139, 140, 128, 129, 130, 131, 132, 133, 134, 135, 136, 137, 141, 142, 143, 144, 145, 146, 147, 148, 149, 150, 151, 152] (by decide +kernel) (by decide +kernel)
set_option maxRecDepth 20000 in
theorem gX6_bestModel_X6_markOf : GoodIn wsX6_bestModel (wsV RX6 140 RX6 yX6_markOf wsX6_markOf) := goodIn_app (goodIn_of _ (by decide +kernel)) ggX6_bestModel_X6_markOf
theorem dX6_bestModel_0 : decode cX6_bestModel 0 = .ok (.iconst (-1), 1) := by decide +kernel
theorem dX6_bestModel_1 : decode cX6_bestModel 1 = .ok (.istore_n 1, 1) := by decide +kernel
theorem dX6_bestModel_2 : decode cX6_bestModel 2 = .ok (.iconst (-1), 1) := by decide +kernel
theorem dX6_bestModel_3 : decode cX6_bestModel 3 = .ok (.istore_n 2, 1) := by decide +kernel
theorem dX6_bestModel_4 : decode cX6_bestModel 4 = .ok (.iconst 1, 1) := by decide +kernel
theorem dX6_bestModel_5 : decode cX6_bestModel 5 = .ok (.istore_n 3, 1) := by decide +kernel
theorem dX6_bestModel_6 : decode cX6_bestModel 6 = .ok (.iload_n 3, 1) := by decide +kernel
theorem dX6_bestModel_7 : decode cX6_bestModel 7 = .ok (.aload_n 0, 1) := by decide +kernel
theorem dX6_bestModel_8 : decode cX6_bestModel 8 = .ok (.getfield 16, 3) := by decide +kernel
theorem dX6_bestModel_11 : decode cX6_bestModel 11 = .ok (.arraylength, 1) := by decide +kernel
theorem dX6_bestModel_12 : decode cX6_bestModel 12 = .ok (.if_icmp .ge 56, 3) := by decide +kernel
theorem dX6_bestModel_15 : decode cX6_bestModel 15 = .ok (.aload_n 0, 1) := by decide +kernel
theorem dX6_bestModel_16 : decode cX6_bestModel 16 = .ok (.getfield 16, 3) := by decide +kernel
theorem dX6_bestModel_19 : decode cX6_bestModel 19 = .ok (.iload_n 3, 1) := by decide +kernel
theorem dX6_bestModel_20 : decode cX6_bestModel 20 = .ok (.aaload, 1) := by decide +kernel
theorem dX6_bestModel_21 : decode cX6_bestModel 21 = .ok (.astore 4, 2) := by decide +kernel
theorem dX6_bestModel_23 : decode cX6_bestModel 23 = .ok (.aload 4, 2) := by decide +kernel
theorem dX6_bestModel_25 : decode cX6_bestModel 25 = .ok (.ifnull 14, 3) := by decide +kernel
theorem dX6_bestModel_28 : decode cX6_bestModel 28 = .ok (.aload 4, 2) := by decide +kernel
theorem dX6_bestModel_30 : decode cX6_bestModel 30 = .ok (.getfield 87, 3) := by decide +kernel
theorem dX6_bestModel_33 : decode cX6_bestModel 33 = .ok (.invokevirtual 113, 3) := by decide +kernel
theorem dX6_bestModel_36 : decode cX6_bestModel 36 = .ok (.ifCond .ne 7, 3) := by decide +kernel
theorem dX6_bestModel_39 : decode cX6_bestModel 39 = .ok (.iconst (-1), 1) := by decide +kernel
theorem dX6_bestModel_40 : decode cX6_bestModel 40 = .ok (.goto 9, 3) := by decide +kernel
theorem dX6_bestModel_43 : decode cX6_bestModel 43 = .ok (.aload_n 0, 1) := by decide +kernel
theorem dX6_bestModel_44 : decode cX6_bestModel 44 = .ok (.aload 4, 2) := by decide +kernel
theorem dX6_bestModel_46 : decode cX6_bestModel 46 = .ok (.invokevirtual 140, 3) := by decide +kernel
theorem dX6_bestModel_49 : decode cX6_bestModel 49 = .ok (.istore 5, 2) := by decide +kernel
theorem dX6_bestModel_51 : decode cX6_bestModel 51 = .ok (.iload 5, 2) := by decide +kernel
theorem dX6_bestModel_53 : decode cX6_bestModel 53 = .ok (.iload_n 2, 1) := by decide +kernel
theorem dX6_bestModel_54 : decode cX6_bestModel 54 = .ok (.if_icmp .le 8, 3) := by decide +kernel
theorem dX6_bestModel_57 : decode cX6_bestModel 57 = .ok (.iload 5, 2) := by decide +kernel
theorem dX6_bestModel_59 : decode cX6_bestModel 59 = .ok (.istore_n 2, 1) := by decide +kernel
theorem dX6_bestModel_60 : decode cX6_bestModel 60 = .ok (.iload_n 3, 1) := by decide +kernel
theorem dX6_bestModel_61 : decode cX6_bestModel 61 = .ok (.istore_n 1, 1) := by decide +kernel
theorem dX6_bestModel_62 : decode cX6_bestModel 62 = .ok (.iinc 3 1, 3) := by decide +kernel
theorem dX6_bestModel_65 : decode cX6_bestModel 65 = .ok (.goto (-59), 3) := by decide +kernel
theorem dX6_bestModel_68 : decode cX6_bestModel 68 = .ok (.iload_n 1, 1) := by decide +kernel
theorem dX6_bestModel_69 : decode cX6_bestModel 69 = .ok (.ireturn, 1) := by decide +kernel
set_option maxRecDepth 20000 in
theorem ggX6_matchOf_X6_modelAt : GoodIn wsX6_matchOf wsX6_modelAt := goodIn_ca (goodIn_r _ [7, 8, 9, 10, 11, 12, 6, 13, 14, 133, 134, 135, 136, 137, 138, 139, 140, 141, 142] (by decide +kernel) (by decide +kernel)) (goodIn_sub (fun _ h => List.mem_cons_of_mem _ (List.mem_append_right _ h)) (by decide +kernel))
set_option maxRecDepth 20000 in
theorem gX6_matchOf_X6_modelAt : GoodIn wsX6_matchOf (wsV RX6 127 RX6 yX6_modelAt wsX6_modelAt) := goodIn_app (goodIn_of _ (by decide +kernel)) ggX6_matchOf_X6_modelAt
set_option maxRecDepth 20000 in
theorem ggX6_matchOf_X6_requireIdea : GoodIn wsX6_matchOf wsX6_requireIdea := goodIn_ca (goodIn_r _ [17, 8, 9, 151, 152, 153] (by decide +kernel) (by decide +kernel)) (goodIn_sub (fun _ h => List.mem_cons_of_mem _ (List.mem_append_right _ h)) (by decide +kernel))
set_option maxRecDepth 20000 in
theorem gX6_matchOf_X6_requireIdea : GoodIn wsX6_matchOf (va_wsS RX6 144 yX6_requireIdea wsX6_requireIdea) := goodIn_app (goodIn_of _ (by decide +kernel)) ggX6_matchOf_X6_requireIdea
set_option maxRecDepth 20000 in
theorem ggX6_matchOf_X6_prepareMatching : GoodIn wsX6_matchOf wsX6_prepareMatching := goodIn_r _ [21, 22, 1, 23, 2, 24, 25, 26, 27, 28, 29, 30, 31, 32, 33, 34, 35, 36, 37, 38, 39, 40, 41, 42, 43, 44, 45, 46, 47, 48, 49, 50, 51, 52, 53, 54, 55, 56, 57, 58, 59, 60, 61, 62, 63, 64, 65, 66, 67, 68, 69, 70, 71, 72, 73, 74, 75, 76, 77, 78, 79, 80, 81, 82, 83, 84, 85, 86, 87, 88, 89, 90, 91, 92, 93, 94, 95, 96, 97, 98, 99, 100, 101, 102, 103, 104, 105, 6, 106, 107, 108, 109, 110, 111, 112, 113, 114, 115, 116, 133, 134, 135, 136, 137, 138, 139, 140, 141, 142, 151, 152, 153, 154, 155, 156, 143, 144, 145, 146, 147, 148, 149, 150, 157] (by decide +kernel) (by decide +kernel)
set_option maxRecDepth 20000 in
theorem gX6_matchOf_X6_prepareMatching : GoodIn wsX6_matchOf (wsV RX6 130 RX6 yX6_prepareMatching wsX6_prepareMatching) := goodIn_app (goodIn_of _ (by decide +kernel)) ggX6_matchOf_X6_prepareMatching
set_option maxRecDepth 20000 in
theorem ggX6_matchOf_X3_findBest : GoodIn wsX6_matchOf wsX3_findBest := goodIn_r _ [120, 121, 122, 123, 72, 124, 90, 74, 125, 126, 75, 77, 38, 39, 34, 40, 36, 127, 32, 33, 35, 37, 101, 102, 103, 104, 76, 85, 66, 67, 68, 128, 129, 130, 131, 95, 114, 115, 116, 143, 144, 145, 146, 147, 148, 149, 150, 155] (by decide +kernel) (by decide +kernel)
set_option maxRecDepth 20000 in
theorem gX6_matchOf_X3_findBest : GoodIn wsX6_matchOf (wsV RX6 134 RX3 yX3_findBest wsX3_findBest) := goodIn_app (goodIn_of _ (by decide +kernel)) ggX6_matchOf_X3_findBest
set_option maxRecDepth 20000 in
theorem ggX6_matchOf_X4_get : GoodIn wsX6_matchOf wsX4_get := goodIn_r _ [40, 36, 155] (by decide +kernel) (by decide +kernel)
set_option maxRecDepth 20000 in
theorem gX6_matchOf_X4_get : GoodIn wsX6_matchOf (wsV RX6 152 RX4 yX4_get wsX4_get) := goodIn_app (goodIn_of _ (by decide +kernel)) ggX6_matchOf_X4_get
theorem dX6_matchOf_0 : decode cX6_matchOf 0 = .ok (.aload_n 0, 1) := by decide +kernel
theorem dX6_matchOf_1 : decode cX6_matchOf 1 = .ok (.iload_n 1, 1) := by decide +kernel
theorem dX6_matchOf_2 : decode cX6_matchOf 2 = .ok (.invokevirtual 127, 3) := by decide +kernel
theorem dX6_matchOf_5 : decode cX6_matchOf 5 = .ok (.astore_n 3, 1) := by decide +kernel
theorem dX6_matchOf_6 : decode cX6_matchOf 6 = .ok (.aload_n 0, 1) := by decide +kernel
theorem dX6_matchOf_7 : decode cX6_matchOf 7 = .ok (.getfield 12, 3) := by decide +kernel
theorem dX6_matchOf_10 : decode cX6_matchOf 10 = .ok (.iload_n 2, 1) := by decide +kernel
theorem dX6_matchOf_11 : decode cX6_matchOf 11 = .ok (.invokestatic 144, 3) := by decide +kernel
theorem dX6_matchOf_14 : decode cX6_matchOf 14 = .ok (.aload_n 0, 1) := by decide +kernel
theorem dX6_matchOf_15 : decode cX6_matchOf 15 = .ok (.aload_n 3, 1) := by decide +kernel
theorem dX6_matchOf_16 : decode cX6_matchOf 16 = .ok (.invokevirtual 130, 3) := by decide +kernel
theorem dX6_matchOf_19 : decode cX6_matchOf 19 = .ok (.aload_n 0, 1) := by decide +kernel
theorem dX6_matchOf_20 : decode cX6_matchOf 20 = .ok (.getfield 50, 3) := by decide +kernel
theorem dX6_matchOf_23 : decode cX6_matchOf 23 = .ok (.iconst (-1), 1) := by decide +kernel
theorem dX6_matchOf_24 : decode cX6_matchOf 24 = .ok (.invokevirtual 134, 3) := by decide +kernel
theorem dX6_matchOf_27 : decode cX6_matchOf 27 = .ok (.pop, 1) := by decide +kernel
theorem dX6_matchOf_28 : decode cX6_matchOf 28 = .ok (.aload_n 0, 1) := by decide +kernel
theorem dX6_matchOf_29 : decode cX6_matchOf 29 = .ok (.getfield 50, 3) := by decide +kernel
theorem dX6_matchOf_32 : decode cX6_matchOf 32 = .ok (.getfield 148, 3) := by decide +kernel
theorem dX6_matchOf_35 : decode cX6_matchOf 35 = .ok (.iload_n 2, 1) := by decide +kernel
theorem dX6_matchOf_36 : decode cX6_matchOf 36 = .ok (.invokevirtual 152, 3) := by decide +kernel
theorem dX6_matchOf_39 : decode cX6_matchOf 39 = .ok (.ireturn, 1) := by decide +kernel
set_option maxRecDepth 20000 in
theorem ggX6_verdict_X6_modelAt : GoodIn wsX6_verdict wsX6_modelAt := goodIn_ca (goodIn_r _ [10, 11, 12, 13, 14, 15, 9, 16, 17, 158, 159, 160, 161, 162, 163, 164, 165, 166, 167] (by decide +kernel) (by decide +kernel)) (goodIn_sub (fun _ h => List.mem_cons_of_mem _ (List.mem_append_left _ (List.mem_append_right _ h))) (by decide +kernel))
set_option maxRecDepth 20000 in
theorem gX6_verdict_X6_modelAt : GoodIn wsX6_verdict (wsV RX6 127 RX6 yX6_modelAt wsX6_modelAt) := goodIn_app (goodIn_of _ (by decide +kernel)) ggX6_verdict_X6_modelAt
set_option maxRecDepth 20000 in
theorem ggX6_verdict_X6_requireLink : GoodIn wsX6_verdict wsX6_requireLink := goodIn_ca (goodIn_ca (goodIn_r _ [20, 21, 22, 23, 24, 9, 25, 11, 12, 26, 27, 28, 155, 156, 157] (by decide +kernel) (by decide +kernel)) (goodIn_sub (fun _ h => List.mem_cons_of_mem _ (List.mem_append_right _ h)) (by decide +kernel))) (goodIn_sub (fun _ h => List.mem_cons_of_mem _ (List.mem_append_left _ (List.mem_append_right _ h))) (by decide +kernel))
set_option maxRecDepth 20000 in
theorem gX6_verdict_X6_requireLink : GoodIn wsX6_verdict (va_wsS RX6 83 yX6_requireLink wsX6_requireLink) := goodIn_app (goodIn_of _ (by decide +kernel)) ggX6_verdict_X6_requireLink
set_option maxRecDepth 20000 in
theorem ggX6_verdict_X2_contains : GoodIn wsX6_verdict wsX2_contains := goodIn_r _ [33, 34, 35, 36, 32, 37, 38, 39, 40, 41, 42, 43, 44, 168, 169] (by decide +kernel) (by decide +kernel)
set_option maxRecDepth 20000 in
theorem gX6_verdict_X2_contains : GoodIn wsX6_verdict (wsV RX6 124 RX2 yX2_contains wsX2_contains) := goodIn_app (goodIn_of _ (by decide +kernel)) ggX6_verdict_X2_contains
set_option maxRecDepth 20000 in
theorem ggX6_verdict_X6_prepareMatching : GoodIn wsX6_verdict wsX6_prepareMatching := goodIn_r _ [48, 4, 5, 49, 3, 50, 51, 52, 53, 32, 54, 38, 55, 56, 57, 42, 58, 44, 59, 40, 41, 43, 60, 61, 62, 63, 64, 65, 66, 67, 34, 35, 36, 37, 39, 68, 69, 70, 71, 72, 73, 74, 75, 76, 77, 78, 79, 80, 81, 82, 83, 84, 85, 86, 87, 88, 89, 90, 91, 92, 93, 94, 95, 96, 97, 98, 99, 100, 101, 102, 103, 104, 105, 106, 107, 108, 109, 110, 111, 112, 113, 114, 115, 116, 117, 118, 119, 9, 120, 121, 122, 123, 124, 125, 126, 127, 128, 129, 130, 158, 159, 160, 161, 162, 163, 164, 165, 166, 167, 155, 156, 157, 168, 169, 170, 171, 172, 173, 174, 175, 176, 177, 178, 179] (by decide +kernel) (by decide +kernel)
set_option maxRecDepth 20000 in
theorem gX6_verdict_X6_prepareMatching : GoodIn wsX6_verdict (wsV RX6 130 RX6 yX6_prepareMatching wsX6_prepareMatching) := goodIn_app (goodIn_of _ (by decide +kernel)) ggX6_verdict_X6_prepareMatching
set_option maxRecDepth 20000 in
theorem ggX6_verdict_X3_findBest : GoodIn wsX6_verdict wsX3_findBest := goodIn_r _ [134, 135, 136, 137, 86, 138, 104, 88, 139, 140, 89, 91, 40, 41, 42, 43, 44, 141, 56, 57, 58, 59, 115, 116, 117, 118, 90, 99, 80, 81, 82, 142, 143, 144, 145, 109, 128, 129, 130, 171, 172, 173, 174, 175, 176, 177, 178, 169] (by decide +kernel) (by decide +kernel)
set_option maxRecDepth 20000 in
theorem gX6_verdict_X3_findBest : GoodIn wsX6_verdict (wsV RX6 134 RX3 yX3_findBest wsX3_findBest) := goodIn_app (goodIn_of _ (by decide +kernel)) ggX6_verdict_X3_findBest
set_option maxRecDepth 20000 in
theorem ggX6_verdict_X3_pupilIdeaFor : GoodIn wsX6_verdict wsX3_pupilIdeaFor := goodIn_r _ [149, 88, 139, 91, 40, 41, 42, 43, 44, 171, 172, 173, 174, 175, 176, 177, 178, 169] (by decide +kernel) (by decide +kernel)
set_option maxRecDepth 20000 in
theorem gX6_verdict_X3_pupilIdeaFor : GoodIn wsX6_verdict (wsV RX6 159 RX3 yX3_pupilIdeaFor wsX3_pupilIdeaFor) := goodIn_app (goodIn_of _ (by decide +kernel)) ggX6_verdict_X3_pupilIdeaFor
set_option maxRecDepth 20000 in
theorem ggX6_verdict_X2_between : GoodIn wsX6_verdict wsX2_between := goodIn_r _ [37, 38, 39, 40, 41, 42, 43, 44, 168, 169] (by decide +kernel) (by decide +kernel)
set_option maxRecDepth 20000 in
theorem gX6_verdict_X2_between : GoodIn wsX6_verdict (wsV RX6 162 RX2 yX2_between wsX2_between) := goodIn_app (goodIn_of _ (by decide +kernel)) ggX6_verdict_X2_between
set_option maxRecDepth 20000 in
theorem ggX6_verdict_X6_pointsFor : GoodIn wsX6_verdict wsX6_pointsFor := goodIn_r _ [120, 121, 122, 123, 124, 125, 126, 127] (by decide +kernel) (by decide +kernel)
set_option maxRecDepth 20000 in
theorem gX6_verdict_X6_pointsFor : GoodIn wsX6_verdict (va_wsS RX6 166 yX6_pointsFor wsX6_pointsFor) := goodIn_app (goodIn_of _ (by decide +kernel)) ggX6_verdict_X6_pointsFor
set_option maxRecDepth 20000 in
theorem ggX6_verdict_X6_verdictWorth : GoodIn wsX6_verdict wsX6_verdictWorth := goodIn_r _ [154] (by decide +kernel) (by decide +kernel)
set_option maxRecDepth 20000 in
theorem gX6_verdict_X6_verdictWorth : GoodIn wsX6_verdict (va_wsS RX6 170 yX6_verdictWorth wsX6_verdictWorth) := goodIn_app (goodIn_of _ (by decide +kernel)) ggX6_verdict_X6_verdictWorth
theorem dX6_verdict_0 : decode cX6_verdict 0 = .ok (.aload_n 0, 1) := by decide +kernel
theorem dX6_verdict_1 : decode cX6_verdict 1 = .ok (.iload_n 1, 1) := by decide +kernel
theorem dX6_verdict_2 : decode cX6_verdict 2 = .ok (.invokevirtual 127, 3) := by decide +kernel
theorem dX6_verdict_5 : decode cX6_verdict 5 = .ok (.astore 5, 2) := by decide +kernel
theorem dX6_verdict_7 : decode cX6_verdict 7 = .ok (.aload 5, 2) := by decide +kernel
theorem dX6_verdict_9 : decode cX6_verdict 9 = .ok (.iload_n 2, 1) := by decide +kernel
theorem dX6_verdict_10 : decode cX6_verdict 10 = .ok (.iload_n 3, 1) := by decide +kernel
theorem dX6_verdict_11 : decode cX6_verdict 11 = .ok (.iload 4, 2) := by decide +kernel
theorem dX6_verdict_13 : decode cX6_verdict 13 = .ok (.invokestatic 83, 3) := by decide +kernel
theorem dX6_verdict_16 : decode cX6_verdict 16 = .ok (.aload 5, 2) := by decide +kernel
theorem dX6_verdict_18 : decode cX6_verdict 18 = .ok (.getfield 87, 3) := by decide +kernel
theorem dX6_verdict_21 : decode cX6_verdict 21 = .ok (.iload_n 2, 1) := by decide +kernel
theorem dX6_verdict_22 : decode cX6_verdict 22 = .ok (.iload_n 3, 1) := by decide +kernel
theorem dX6_verdict_23 : decode cX6_verdict 23 = .ok (.iload 4, 2) := by decide +kernel
theorem dX6_verdict_25 : decode cX6_verdict 25 = .ok (.invokevirtual 124, 3) := by decide +kernel
theorem dX6_verdict_28 : decode cX6_verdict 28 = .ok (.ifCond .ne 13, 3) := by decide +kernel
theorem dX6_verdict_31 : decode cX6_verdict 31 = .ok (.new 72, 3) := by decide +kernel
theorem dX6_verdict_34 : decode cX6_verdict 34 = .ok (.dup, 1) := by decide +kernel
theorem dX6_verdict_35 : decode cX6_verdict 35 = .ok (.ldc 157, 2) := by decide +kernel
theorem dX6_verdict_37 : decode cX6_verdict 37 = .ok (.invokespecial 76, 3) := by decide +kernel
theorem dX6_verdict_40 : decode cX6_verdict 40 = .ok (.athrow, 1) := by decide +kernel
theorem dX6_verdict_41 : decode cX6_verdict 41 = .ok (.aload_n 0, 1) := by decide +kernel
theorem dX6_verdict_42 : decode cX6_verdict 42 = .ok (.aload 5, 2) := by decide +kernel
theorem dX6_verdict_44 : decode cX6_verdict 44 = .ok (.invokevirtual 130, 3) := by decide +kernel
theorem dX6_verdict_47 : decode cX6_verdict 47 = .ok (.aload_n 0, 1) := by decide +kernel
theorem dX6_verdict_48 : decode cX6_verdict 48 = .ok (.getfield 50, 3) := by decide +kernel
theorem dX6_verdict_51 : decode cX6_verdict 51 = .ok (.iconst (-1), 1) := by decide +kernel
theorem dX6_verdict_52 : decode cX6_verdict 52 = .ok (.invokevirtual 134, 3) := by decide +kernel
theorem dX6_verdict_55 : decode cX6_verdict 55 = .ok (.pop, 1) := by decide +kernel
theorem dX6_verdict_56 : decode cX6_verdict 56 = .ok (.aload_n 0, 1) := by decide +kernel
theorem dX6_verdict_57 : decode cX6_verdict 57 = .ok (.getfield 50, 3) := by decide +kernel
theorem dX6_verdict_60 : decode cX6_verdict 60 = .ok (.iload_n 2, 1) := by decide +kernel
theorem dX6_verdict_61 : decode cX6_verdict 61 = .ok (.invokevirtual 159, 3) := by decide +kernel
theorem dX6_verdict_64 : decode cX6_verdict 64 = .ok (.istore 6, 2) := by decide +kernel
theorem dX6_verdict_66 : decode cX6_verdict 66 = .ok (.aload_n 0, 1) := by decide +kernel
theorem dX6_verdict_67 : decode cX6_verdict 67 = .ok (.getfield 50, 3) := by decide +kernel
theorem dX6_verdict_70 : decode cX6_verdict 70 = .ok (.iload_n 3, 1) := by decide +kernel
theorem dX6_verdict_71 : decode cX6_verdict 71 = .ok (.invokevirtual 159, 3) := by decide +kernel
theorem dX6_verdict_74 : decode cX6_verdict 74 = .ok (.istore 7, 2) := by decide +kernel
theorem dX6_verdict_76 : decode cX6_verdict 76 = .ok (.iload 6, 2) := by decide +kernel
theorem dX6_verdict_78 : decode cX6_verdict 78 = .ok (.iconst (-1), 1) := by decide +kernel
theorem dX6_verdict_79 : decode cX6_verdict 79 = .ok (.if_icmp .eq 9, 3) := by decide +kernel
theorem dX6_verdict_82 : decode cX6_verdict 82 = .ok (.iload 7, 2) := by decide +kernel
theorem dX6_verdict_84 : decode cX6_verdict 84 = .ok (.iconst (-1), 1) := by decide +kernel
theorem dX6_verdict_85 : decode cX6_verdict 85 = .ok (.if_icmp .ne 5, 3) := by decide +kernel
theorem dX6_verdict_88 : decode cX6_verdict 88 = .ok (.iconst 0, 1) := by decide +kernel
theorem dX6_verdict_89 : decode cX6_verdict 89 = .ok (.ireturn, 1) := by decide +kernel
theorem dX6_verdict_90 : decode cX6_verdict 90 = .ok (.iconst 1, 1) := by decide +kernel
theorem dX6_verdict_91 : decode cX6_verdict 91 = .ok (.iload 4, 2) := by decide +kernel
theorem dX6_verdict_93 : decode cX6_verdict 93 = .ok (.ishl, 1) := by decide +kernel
theorem dX6_verdict_94 : decode cX6_verdict 94 = .ok (.aload_n 0, 1) := by decide +kernel
theorem dX6_verdict_95 : decode cX6_verdict 95 = .ok (.getfield 37, 3) := by decide +kernel
theorem dX6_verdict_98 : decode cX6_verdict 98 = .ok (.iload 6, 2) := by decide +kernel
theorem dX6_verdict_100 : decode cX6_verdict 100 = .ok (.iload 7, 2) := by decide +kernel
theorem dX6_verdict_102 : decode cX6_verdict 102 = .ok (.invokevirtual 162, 3) := by decide +kernel
theorem dX6_verdict_105 : decode cX6_verdict 105 = .ok (.aload_n 0, 1) := by decide +kernel
theorem dX6_verdict_106 : decode cX6_verdict 106 = .ok (.getfield 12, 3) := by decide +kernel
theorem dX6_verdict_109 : decode cX6_verdict 109 = .ok (.getfield 87, 3) := by decide +kernel
theorem dX6_verdict_112 : decode cX6_verdict 112 = .ok (.iload 6, 2) := by decide +kernel
theorem dX6_verdict_114 : decode cX6_verdict 114 = .ok (.iload 7, 2) := by decide +kernel
theorem dX6_verdict_116 : decode cX6_verdict 116 = .ok (.invokevirtual 162, 3) := by decide +kernel
theorem dX6_verdict_119 : decode cX6_verdict 119 = .ok (.aload_n 0, 1) := by decide +kernel
theorem dX6_verdict_120 : decode cX6_verdict 120 = .ok (.getfield 12, 3) := by decide +kernel
theorem dX6_verdict_123 : decode cX6_verdict 123 = .ok (.getfield 87, 3) := by decide +kernel
theorem dX6_verdict_126 : decode cX6_verdict 126 = .ok (.iload 7, 2) := by decide +kernel
theorem dX6_verdict_128 : decode cX6_verdict 128 = .ok (.iload 6, 2) := by decide +kernel
theorem dX6_verdict_130 : decode cX6_verdict 130 = .ok (.invokevirtual 162, 3) := by decide +kernel
theorem dX6_verdict_133 : decode cX6_verdict 133 = .ok (.invokestatic 166, 3) := by decide +kernel
theorem dX6_verdict_136 : decode cX6_verdict 136 = .ok (.invokestatic 170, 3) := by decide +kernel
theorem dX6_verdict_139 : decode cX6_verdict 139 = .ok (.ireturn, 1) := by decide +kernel
set_option maxRecDepth 20000 in
theorem ggX6_lacking_X6_modelAt : GoodIn wsX6_lacking wsX6_modelAt := goodIn_ca (goodIn_r _ [6, 7, 8, 9, 10, 11, 5, 12, 13, 133, 134, 135, 136, 137, 138, 139, 140, 141, 142] (by decide +kernel) (by decide +kernel)) (goodIn_sub (fun _ h => List.mem_cons_of_mem _ (List.mem_append_right _ h)) (by decide +kernel))
set_option maxRecDepth 20000 in
theorem gX6_lacking_X6_modelAt : GoodIn wsX6_lacking (wsV RX6 127 RX6 yX6_modelAt wsX6_modelAt) := goodIn_app (goodIn_of _ (by decide +kernel)) ggX6_lacking_X6_modelAt
set_option maxRecDepth 20000 in
theorem ggX6_lacking_X6_prepareMatching : GoodIn wsX6_lacking wsX6_prepareMatching := goodIn_r _ [17, 18, 19, 20, 1, 21, 22, 23, 24, 25, 26, 27, 28, 29, 30, 31, 32, 33, 34, 35, 36, 37, 38, 39, 40, 41, 42, 43, 44, 45, 46, 47, 48, 49, 50, 51, 52, 53, 54, 55, 56, 57, 58, 59, 60, 61, 62, 63, 64, 65, 66, 67, 68, 69, 70, 71, 72, 73, 74, 75, 76, 77, 78, 79, 80, 81, 82, 83, 84, 85, 86, 87, 88, 89, 90, 91, 92, 93, 94, 95, 96, 97, 98, 99, 100, 101, 102, 5, 103, 104, 105, 106, 107, 108, 109, 110, 111, 112, 113, 133, 134, 135, 136, 137, 138, 139, 140, 141, 142, 143, 144, 145, 146, 147, 148, 149, 150, 151, 152, 153, 154, 155, 156, 157] (by decide +kernel) (by decide +kernel)
set_option maxRecDepth 20000 in
theorem gX6_lacking_X6_prepareMatching : GoodIn wsX6_lacking (wsV RX6 130 RX6 yX6_prepareMatching wsX6_prepareMatching) := goodIn_app (goodIn_of _ (by decide +kernel)) ggX6_lacking_X6_prepareMatching
set_option maxRecDepth 20000 in
theorem ggX6_lacking_X3_findBest : GoodIn wsX6_lacking wsX3_findBest := goodIn_r _ [117, 118, 119, 120, 69, 121, 87, 71, 122, 123, 72, 74, 35, 36, 31, 37, 33, 124, 29, 30, 32, 34, 98, 99, 100, 101, 73, 82, 63, 64, 65, 125, 126, 127, 128, 92, 111, 112, 113, 149, 150, 151, 152, 153, 154, 155, 156, 147] (by decide +kernel) (by decide +kernel)
set_option maxRecDepth 20000 in
theorem gX6_lacking_X3_findBest : GoodIn wsX6_lacking (wsV RX6 134 RX3 yX3_findBest wsX3_findBest) := goodIn_app (goodIn_of _ (by decide +kernel)) ggX6_lacking_X3_findBest
set_option maxRecDepth 20000 in
theorem ggX6_lacking_X3_pupilIdeaFor : GoodIn wsX6_lacking wsX3_pupilIdeaFor := goodIn_r _ [132, 71, 122, 74, 35, 36, 31, 37, 33, 149, 150, 151, 152, 153, 154, 155, 156, 147] (by decide +kernel) (by decide +kernel)
set_option maxRecDepth 20000 in
theorem gX6_lacking_X3_pupilIdeaFor : GoodIn wsX6_lacking (wsV RX6 159 RX3 yX3_pupilIdeaFor wsX3_pupilIdeaFor) := goodIn_app (goodIn_of _ (by decide +kernel)) ggX6_lacking_X3_pupilIdeaFor
theorem dX6_lacking_0 : decode cX6_lacking 0 = .ok (.aload_n 0, 1) := by decide +kernel
theorem dX6_lacking_1 : decode cX6_lacking 1 = .ok (.iload_n 1, 1) := by decide +kernel
theorem dX6_lacking_2 : decode cX6_lacking 2 = .ok (.invokevirtual 127, 3) := by decide +kernel
theorem dX6_lacking_5 : decode cX6_lacking 5 = .ok (.astore_n 2, 1) := by decide +kernel
theorem dX6_lacking_6 : decode cX6_lacking 6 = .ok (.aload_n 0, 1) := by decide +kernel
theorem dX6_lacking_7 : decode cX6_lacking 7 = .ok (.aload_n 2, 1) := by decide +kernel
theorem dX6_lacking_8 : decode cX6_lacking 8 = .ok (.invokevirtual 130, 3) := by decide +kernel
theorem dX6_lacking_11 : decode cX6_lacking 11 = .ok (.aload_n 0, 1) := by decide +kernel
theorem dX6_lacking_12 : decode cX6_lacking 12 = .ok (.getfield 50, 3) := by decide +kernel
theorem dX6_lacking_15 : decode cX6_lacking 15 = .ok (.iconst (-1), 1) := by decide +kernel
theorem dX6_lacking_16 : decode cX6_lacking 16 = .ok (.invokevirtual 134, 3) := by decide +kernel
theorem dX6_lacking_19 : decode cX6_lacking 19 = .ok (.pop, 1) := by decide +kernel
theorem dX6_lacking_20 : decode cX6_lacking 20 = .ok (.iconst 0, 1) := by decide +kernel
theorem dX6_lacking_21 : decode cX6_lacking 21 = .ok (.istore_n 3, 1) := by decide +kernel
theorem dX6_lacking_22 : decode cX6_lacking 22 = .ok (.iconst 0, 1) := by decide +kernel
theorem dX6_lacking_23 : decode cX6_lacking 23 = .ok (.istore 4, 2) := by decide +kernel
theorem dX6_lacking_25 : decode cX6_lacking 25 = .ok (.iload 4, 2) := by decide +kernel
theorem dX6_lacking_27 : decode cX6_lacking 27 = .ok (.aload_n 2, 1) := by decide +kernel
theorem dX6_lacking_28 : decode cX6_lacking 28 = .ok (.getfield 69, 3) := by decide +kernel
theorem dX6_lacking_31 : decode cX6_lacking 31 = .ok (.if_icmp .ge 25, 3) := by decide +kernel
theorem dX6_lacking_34 : decode cX6_lacking 34 = .ok (.aload_n 0, 1) := by decide +kernel
theorem dX6_lacking_35 : decode cX6_lacking 35 = .ok (.getfield 50, 3) := by decide +kernel
theorem dX6_lacking_38 : decode cX6_lacking 38 = .ok (.iload 4, 2) := by decide +kernel
theorem dX6_lacking_40 : decode cX6_lacking 40 = .ok (.invokevirtual 159, 3) := by decide +kernel
theorem dX6_lacking_43 : decode cX6_lacking 43 = .ok (.iconst (-1), 1) := by decide +kernel
theorem dX6_lacking_44 : decode cX6_lacking 44 = .ok (.if_icmp .ne 6, 3) := by decide +kernel
theorem dX6_lacking_47 : decode cX6_lacking 47 = .ok (.iinc 3 1, 3) := by decide +kernel
theorem dX6_lacking_50 : decode cX6_lacking 50 = .ok (.iinc 4 1, 3) := by decide +kernel
theorem dX6_lacking_53 : decode cX6_lacking 53 = .ok (.goto (-28), 3) := by decide +kernel
theorem dX6_lacking_56 : decode cX6_lacking 56 = .ok (.iload_n 3, 1) := by decide +kernel
theorem dX6_lacking_57 : decode cX6_lacking 57 = .ok (.ireturn, 1) := by decide +kernel
set_option maxRecDepth 20000 in
theorem ggX6_hint_X6_modelAt : GoodIn wsX6_hint wsX6_modelAt := goodIn_ca (goodIn_r _ [6, 7, 8, 9, 10, 11, 5, 12, 13, 146, 147, 148, 149, 150, 151, 152, 153, 154, 155] (by decide +kernel) (by decide +kernel)) (goodIn_sub (fun _ h => List.mem_cons_of_mem _ (List.mem_append_right _ h)) (by decide +kernel))
set_option maxRecDepth 20000 in
theorem gX6_hint_X6_modelAt : GoodIn wsX6_hint (wsV RX6 127 RX6 yX6_modelAt wsX6_modelAt) := goodIn_app (goodIn_of _ (by decide +kernel)) ggX6_hint_X6_modelAt
set_option maxRecDepth 20000 in
theorem ggX6_hint_X6_findBestLink : GoodIn wsX6_hint wsX6_findBestLink := goodIn_r _ [17, 18, 1, 19, 20, 21, 22, 23, 24, 25, 5, 26, 27, 28, 29, 30, 31, 32, 33, 34, 35, 36, 37, 38, 39, 40, 41, 42, 43, 44, 45, 46, 47, 48, 49, 50, 51, 52, 53, 54, 55, 56, 57, 58, 59, 60, 61, 62, 63, 64, 65, 66, 67, 68, 69, 70, 71, 72, 73, 74, 75, 76, 77, 78, 79, 80, 81, 82, 83, 84, 85, 86, 87, 88, 89, 90, 91, 92, 93, 94, 95, 96, 97, 98, 99, 100, 101, 102, 103, 104, 105, 106, 107, 108, 109, 110, 111, 112, 113, 114, 115, 116, 117, 118, 119, 120, 121, 122, 123, 124, 125, 126, 127, 128, 129, 130, 131, 132, 133, 134, 135, 136, 137, 138, 139, 140, 141, 142, 143, 144, 145, 146, 147, 148, 149, 150, 151, 152, 153, 154, 155, 156, 157, 158, 159, 160, 161, 162, 163, 164, 165, 166, 167, 168, 169, 170] (by decide +kernel) (by decide +kernel)
set_option maxRecDepth 20000 in
theorem gX6_hint_X6_findBestLink : GoodIn wsX6_hint (wsV RX6 173 RX6 yX6_findBestLink wsX6_findBestLink) := goodIn_app (goodIn_of _ (by decide +kernel)) ggX6_hint_X6_findBestLink
theorem dX6_hint_0 : decode cX6_hint 0 = .ok (.aload_n 0, 1) := by decide +kernel
theorem dX6_hint_1 : decode cX6_hint 1 = .ok (.aload_n 0, 1) := by decide +kernel
theorem dX6_hint_2 : decode cX6_hint 2 = .ok (.iload_n 1, 1) := by decide +kernel
theorem dX6_hint_3 : decode cX6_hint 3 = .ok (.invokevirtual 127, 3) := by decide +kernel
theorem dX6_hint_6 : decode cX6_hint 6 = .ok (.invokevirtual 173, 3) := by decide +kernel
theorem dX6_hint_9 : decode cX6_hint 9 = .ok (.aload_n 0, 1) := by decide +kernel
theorem dX6_hint_10 : decode cX6_hint 10 = .ok (.getfield 54, 3) := by decide +kernel
theorem dX6_hint_13 : decode cX6_hint 13 = .ok (.ireturn, 1) := by decide +kernel
set_option maxRecDepth 20000 in
theorem ggX6_gain_X6_modelAt : GoodIn wsX6_gain wsX6_modelAt := goodIn_ca (goodIn_r _ [6, 7, 8, 9, 10, 11, 5, 12, 13, 146, 147, 148, 149, 150, 151, 152, 153, 154, 155] (by decide +kernel) (by decide +kernel)) (goodIn_sub (fun _ h => List.mem_cons_of_mem _ (List.mem_append_right _ h)) (by decide +kernel))
set_option maxRecDepth 20000 in
theorem gX6_gain_X6_modelAt : GoodIn wsX6_gain (wsV RX6 127 RX6 yX6_modelAt wsX6_modelAt) := goodIn_app (goodIn_of _ (by decide +kernel)) ggX6_gain_X6_modelAt
set_option maxRecDepth 20000 in
theorem ggX6_gain_X6_findBestLink : GoodIn wsX6_gain wsX6_findBestLink := goodIn_r _ [17, 18, 19, 1, 20, 21, 22, 23, 24, 25, 5, 26, 27, 28, 29, 30, 31, 32, 33, 34, 35, 36, 37, 38, 39, 40, 41, 42, 43, 44, 45, 46, 47, 48, 49, 50, 51, 52, 53, 54, 55, 56, 57, 58, 59, 60, 61, 62, 63, 64, 65, 66, 67, 68, 69, 70, 71, 72, 73, 74, 75, 76, 77, 78, 79, 80, 81, 82, 83, 84, 85, 86, 87, 88, 89, 90, 91, 92, 93, 94, 95, 96, 97, 98, 99, 100, 101, 102, 103, 104, 105, 106, 107, 108, 109, 110, 111, 112, 113, 114, 115, 116, 117, 118, 119, 120, 121, 122, 123, 124, 125, 126, 127, 128, 129, 130, 131, 132, 133, 134, 135, 136, 137, 138, 139, 140, 141, 142, 143, 144, 145, 146, 147, 148, 149, 150, 151, 152, 153, 154, 155, 156, 157, 158, 159, 160, 161, 162, 163, 164, 165, 166, 167, 168, 169, 170] (by decide +kernel) (by decide +kernel)
set_option maxRecDepth 20000 in
theorem gX6_gain_X6_findBestLink : GoodIn wsX6_gain (wsV RX6 173 RX6 yX6_findBestLink wsX6_findBestLink) := goodIn_app (goodIn_of _ (by decide +kernel)) ggX6_gain_X6_findBestLink
theorem dX6_gain_0 : decode cX6_gain 0 = .ok (.aload_n 0, 1) := by decide +kernel
theorem dX6_gain_1 : decode cX6_gain 1 = .ok (.aload_n 0, 1) := by decide +kernel
theorem dX6_gain_2 : decode cX6_gain 2 = .ok (.iload_n 1, 1) := by decide +kernel
theorem dX6_gain_3 : decode cX6_gain 3 = .ok (.invokevirtual 127, 3) := by decide +kernel
theorem dX6_gain_6 : decode cX6_gain 6 = .ok (.invokevirtual 173, 3) := by decide +kernel
theorem dX6_gain_9 : decode cX6_gain 9 = .ok (.aload_n 0, 1) := by decide +kernel
theorem dX6_gain_10 : decode cX6_gain 10 = .ok (.getfield 58, 3) := by decide +kernel
theorem dX6_gain_13 : decode cX6_gain 13 = .ok (.ireturn, 1) := by decide +kernel
theorem dX6_mapAt_0 : decode cX6_mapAt 0 = .ok (.iload_n 1, 1) := by decide +kernel
theorem dX6_mapAt_1 : decode cX6_mapAt 1 = .ok (.ifCond .lt 21, 3) := by decide +kernel
theorem dX6_mapAt_4 : decode cX6_mapAt 4 = .ok (.iload_n 1, 1) := by decide +kernel
theorem dX6_mapAt_5 : decode cX6_mapAt 5 = .ok (.aload_n 0, 1) := by decide +kernel
theorem dX6_mapAt_6 : decode cX6_mapAt 6 = .ok (.getfield 16, 3) := by decide +kernel
theorem dX6_mapAt_9 : decode cX6_mapAt 9 = .ok (.arraylength, 1) := by decide +kernel
theorem dX6_mapAt_10 : decode cX6_mapAt 10 = .ok (.if_icmp .ge 12, 3) := by decide +kernel
theorem dX6_mapAt_13 : decode cX6_mapAt 13 = .ok (.aload_n 0, 1) := by decide +kernel
theorem dX6_mapAt_14 : decode cX6_mapAt 14 = .ok (.getfield 16, 3) := by decide +kernel
theorem dX6_mapAt_17 : decode cX6_mapAt 17 = .ok (.iload_n 1, 1) := by decide +kernel
theorem dX6_mapAt_18 : decode cX6_mapAt 18 = .ok (.aaload, 1) := by decide +kernel
theorem dX6_mapAt_19 : decode cX6_mapAt 19 = .ok (.goto 4, 3) := by decide +kernel
theorem dX6_mapAt_22 : decode cX6_mapAt 22 = .ok (.aconst_null, 1) := by decide +kernel
theorem dX6_mapAt_23 : decode cX6_mapAt 23 = .ok (.astore_n 2, 1) := by decide +kernel
theorem dX6_mapAt_24 : decode cX6_mapAt 24 = .ok (.aload_n 2, 1) := by decide +kernel
theorem dX6_mapAt_25 : decode cX6_mapAt 25 = .ok (.ifnonnull 13, 3) := by decide +kernel
theorem dX6_mapAt_28 : decode cX6_mapAt 28 = .ok (.new 176, 3) := by decide +kernel
theorem dX6_mapAt_31 : decode cX6_mapAt 31 = .ok (.dup, 1) := by decide +kernel
theorem dX6_mapAt_32 : decode cX6_mapAt 32 = .ok (.ldc 178, 2) := by decide +kernel
theorem dX6_mapAt_34 : decode cX6_mapAt 34 = .ok (.invokespecial 180, 3) := by decide +kernel
theorem dX6_mapAt_37 : decode cX6_mapAt 37 = .ok (.athrow, 1) := by decide +kernel
theorem dX6_mapAt_38 : decode cX6_mapAt 38 = .ok (.aload_n 2, 1) := by decide +kernel
theorem dX6_mapAt_39 : decode cX6_mapAt 39 = .ok (.areturn, 1) := by decide +kernel
set_option maxRecDepth 20000 in
theorem ggX6_modelAt_X6_mapAt : GoodIn wsX6_modelAt wsX6_mapAt := goodIn_ca (goodIn_r _ [7, 1, 2, 8, 9, 10, 11, 12, 13, 14, 15, 16, 17, 18] (by decide +kernel) (by decide +kernel)) (goodIn_sub (fun _ h => List.mem_cons_of_mem _ (List.mem_append_right _ h)) (by decide +kernel))
set_option maxRecDepth 20000 in
theorem gX6_modelAt_X6_mapAt : GoodIn wsX6_modelAt (wsV RX6 61 RX6 yX6_mapAt wsX6_mapAt) := goodIn_app (goodIn_of _ (by decide +kernel)) ggX6_modelAt_X6_mapAt
theorem dX6_modelAt_0 : decode cX6_modelAt 0 = .ok (.iload_n 1, 1) := by decide +kernel
theorem dX6_modelAt_1 : decode cX6_modelAt 1 = .ok (.ifCond .ne 13, 3) := by decide +kernel
theorem dX6_modelAt_4 : decode cX6_modelAt 4 = .ok (.new 176, 3) := by decide +kernel
theorem dX6_modelAt_7 : decode cX6_modelAt 7 = .ok (.dup, 1) := by decide +kernel
theorem dX6_modelAt_8 : decode cX6_modelAt 8 = .ok (.ldc 181, 2) := by decide +kernel
theorem dX6_modelAt_10 : decode cX6_modelAt 10 = .ok (.invokespecial 180, 3) := by decide +kernel
theorem dX6_modelAt_13 : decode cX6_modelAt 13 = .ok (.athrow, 1) := by decide +kernel
theorem dX6_modelAt_14 : decode cX6_modelAt 14 = .ok (.aload_n 0, 1) := by decide +kernel
theorem dX6_modelAt_15 : decode cX6_modelAt 15 = .ok (.iload_n 1, 1) := by decide +kernel
theorem dX6_modelAt_16 : decode cX6_modelAt 16 = .ok (.invokevirtual 61, 3) := by decide +kernel
theorem dX6_modelAt_19 : decode cX6_modelAt 19 = .ok (.areturn, 1) := by decide +kernel
theorem dX6_requireIdea_0 : decode cX6_requireIdea 0 = .ok (.iload_n 1, 1) := by decide +kernel
theorem dX6_requireIdea_1 : decode cX6_requireIdea 1 = .ok (.ifCond .lt 11, 3) := by decide +kernel
theorem dX6_requireIdea_4 : decode cX6_requireIdea 4 = .ok (.iload_n 1, 1) := by decide +kernel
theorem dX6_requireIdea_5 : decode cX6_requireIdea 5 = .ok (.aload_n 0, 1) := by decide +kernel
theorem dX6_requireIdea_6 : decode cX6_requireIdea 6 = .ok (.getfield 69, 3) := by decide +kernel
theorem dX6_requireIdea_9 : decode cX6_requireIdea 9 = .ok (.if_icmp .lt 13, 3) := by decide +kernel
theorem dX6_requireIdea_12 : decode cX6_requireIdea 12 = .ok (.new 176, 3) := by decide +kernel
theorem dX6_requireIdea_15 : decode cX6_requireIdea 15 = .ok (.dup, 1) := by decide +kernel
theorem dX6_requireIdea_16 : decode cX6_requireIdea 16 = .ok (.ldc 183, 2) := by decide +kernel
theorem dX6_requireIdea_18 : decode cX6_requireIdea 18 = .ok (.invokespecial 180, 3) := by decide +kernel
theorem dX6_requireIdea_21 : decode cX6_requireIdea 21 = .ok (.athrow, 1) := by decide +kernel
theorem dX6_requireIdea_22 : decode cX6_requireIdea 22 = .ok (.return_, 1) := by decide +kernel
theorem dX6_requireWord_0 : decode cX6_requireWord 0 = .ok (.iload_n 0, 1) := by decide +kernel
theorem dX6_requireWord_1 : decode cX6_requireWord 1 = .ok (.ifCond .lt 9, 3) := by decide +kernel
theorem dX6_requireWord_4 : decode cX6_requireWord 4 = .ok (.iload_n 0, 1) := by decide +kernel
theorem dX6_requireWord_5 : decode cX6_requireWord 5 = .ok (.bipush 32, 2) := by decide +kernel
theorem dX6_requireWord_7 : decode cX6_requireWord 7 = .ok (.if_icmp .lt 13, 3) := by decide +kernel
theorem dX6_requireWord_10 : decode cX6_requireWord 10 = .ok (.new 176, 3) := by decide +kernel
theorem dX6_requireWord_13 : decode cX6_requireWord 13 = .ok (.dup, 1) := by decide +kernel
theorem dX6_requireWord_14 : decode cX6_requireWord 14 = .ok (.ldc 185, 2) := by decide +kernel
theorem dX6_requireWord_16 : decode cX6_requireWord 16 = .ok (.invokespecial 180, 3) := by decide +kernel
theorem dX6_requireWord_19 : decode cX6_requireWord 19 = .ok (.athrow, 1) := by decide +kernel
theorem dX6_requireWord_20 : decode cX6_requireWord 20 = .ok (.return_, 1) := by decide +kernel
theorem dX6_requireKind_0 : decode cX6_requireKind 0 = .ok (.iload_n 0, 1) := by decide +kernel
theorem dX6_requireKind_1 : decode cX6_requireKind 1 = .ok (.ifCond .lt 8, 3) := by decide +kernel
theorem dX6_requireKind_4 : decode cX6_requireKind 4 = .ok (.iload_n 0, 1) := by decide +kernel
theorem dX6_requireKind_5 : decode cX6_requireKind 5 = .ok (.iconst 4, 1) := by decide +kernel
theorem dX6_requireKind_6 : decode cX6_requireKind 6 = .ok (.if_icmp .lt 13, 3) := by decide +kernel
theorem dX6_requireKind_9 : decode cX6_requireKind 9 = .ok (.new 187, 3) := by decide +kernel
theorem dX6_requireKind_12 : decode cX6_requireKind 12 = .ok (.dup, 1) := by decide +kernel
theorem dX6_requireKind_13 : decode cX6_requireKind 13 = .ok (.ldc 189, 2) := by decide +kernel
theorem dX6_requireKind_15 : decode cX6_requireKind 15 = .ok (.invokespecial 191, 3) := by decide +kernel
theorem dX6_requireKind_18 : decode cX6_requireKind 18 = .ok (.athrow, 1) := by decide +kernel
theorem dX6_requireKind_19 : decode cX6_requireKind 19 = .ok (.return_, 1) := by decide +kernel
set_option maxRecDepth 20000 in
theorem ggX6_requireLink_X6_requireIdea : GoodIn wsX6_requireLink wsX6_requireIdea := goodIn_ca (goodIn_r _ [6, 7, 8, 12, 13, 14] (by decide +kernel) (by decide +kernel)) (goodIn_sub (fun _ h => List.mem_cons_of_mem _ (List.mem_append_right _ h)) (by decide +kernel))
set_option maxRecDepth 20000 in
theorem gX6_requireLink_X6_requireIdea : GoodIn wsX6_requireLink (va_wsS RX6 144 yX6_requireIdea wsX6_requireIdea) := goodIn_app (goodIn_of _ (by decide +kernel)) ggX6_requireLink_X6_requireIdea
set_option maxRecDepth 20000 in
theorem ggX6_requireLink_X6_requireKind : GoodIn wsX6_requireLink wsX6_requireKind := goodIn_ca (goodIn_r _ [11, 1, 2] (by decide +kernel) (by decide +kernel)) (goodIn_sub (fun _ h => List.mem_cons_of_mem _ (List.mem_append_left _ (List.mem_append_right _ h))) (by decide +kernel))
set_option maxRecDepth 20000 in
theorem gX6_requireLink_X6_requireKind : GoodIn wsX6_requireLink (va_wsS RX6 106 yX6_requireKind wsX6_requireKind) := goodIn_app (goodIn_of _ (by decide +kernel)) ggX6_requireLink_X6_requireKind
theorem dX6_requireLink_0 : decode cX6_requireLink 0 = .ok (.aload_n 0, 1) := by decide +kernel
theorem dX6_requireLink_1 : decode cX6_requireLink 1 = .ok (.iload_n 1, 1) := by decide +kernel
theorem dX6_requireLink_2 : decode cX6_requireLink 2 = .ok (.invokestatic 144, 3) := by decide +kernel
theorem dX6_requireLink_5 : decode cX6_requireLink 5 = .ok (.aload_n 0, 1) := by decide +kernel
theorem dX6_requireLink_6 : decode cX6_requireLink 6 = .ok (.iload_n 2, 1) := by decide +kernel
theorem dX6_requireLink_7 : decode cX6_requireLink 7 = .ok (.invokestatic 144, 3) := by decide +kernel
theorem dX6_requireLink_10 : decode cX6_requireLink 10 = .ok (.iload_n 1, 1) := by decide +kernel
theorem dX6_requireLink_11 : decode cX6_requireLink 11 = .ok (.iload_n 2, 1) := by decide +kernel
theorem dX6_requireLink_12 : decode cX6_requireLink 12 = .ok (.if_icmp .ne 13, 3) := by decide +kernel
theorem dX6_requireLink_15 : decode cX6_requireLink 15 = .ok (.new 187, 3) := by decide +kernel
theorem dX6_requireLink_18 : decode cX6_requireLink 18 = .ok (.dup, 1) := by decide +kernel
theorem dX6_requireLink_19 : decode cX6_requireLink 19 = .ok (.ldc 192, 2) := by decide +kernel
theorem dX6_requireLink_21 : decode cX6_requireLink 21 = .ok (.invokespecial 191, 3) := by decide +kernel
theorem dX6_requireLink_24 : decode cX6_requireLink 24 = .ok (.athrow, 1) := by decide +kernel
theorem dX6_requireLink_25 : decode cX6_requireLink 25 = .ok (.iload_n 3, 1) := by decide +kernel
theorem dX6_requireLink_26 : decode cX6_requireLink 26 = .ok (.invokestatic 106, 3) := by decide +kernel
theorem dX6_requireLink_29 : decode cX6_requireLink 29 = .ok (.return_, 1) := by decide +kernel
set_option maxRecDepth 20000 in
theorem ggX6_prepareMatching_X2_become : GoodIn wsX6_prepareMatching wsX2_become := goodIn_r _ [10, 11, 12, 13, 14, 15, 16, 17, 18, 19, 20, 21, 112, 113] (by decide +kernel) (by decide +kernel)
set_option maxRecDepth 20000 in
theorem gX6_prepareMatching_X2_become : GoodIn wsX6_prepareMatching (wsV RX6 116 RX2 yX2_become wsX2_become) := goodIn_app (goodIn_of _ (by decide +kernel)) ggX6_prepareMatching_X2_become
set_option maxRecDepth 20000 in
theorem ggX6_prepareMatching_X2_addAllImplied : GoodIn wsX6_prepareMatching wsX2_addAllImplied := goodIn_r _ [25, 26, 27, 28, 9, 29, 30, 31, 32, 33, 11, 34, 19, 20, 15, 21, 17, 35, 36, 37, 38, 39, 40, 41, 42, 43, 44, 45, 46, 47, 48, 49, 112, 113, 114] (by decide +kernel) (by decide +kernel)
set_option maxRecDepth 20000 in
theorem gX6_prepareMatching_X2_addAllImplied : GoodIn wsX6_prepareMatching (wsV RX6 120 RX2 yX2_addAllImplied wsX2_addAllImplied) := goodIn_app (goodIn_of _ (by decide +kernel)) ggX6_prepareMatching_X2_addAllImplied
set_option maxRecDepth 20000 in
theorem ggX6_prepareMatching_X3_takeIdeas : GoodIn wsX6_prepareMatching wsX3_takeIdeas := goodIn_r _ [54, 55, 56, 57, 58, 19, 20, 15, 21, 17, 59, 60, 61, 62, 63, 64, 65, 66, 47, 48, 49, 109, 110, 111, 115, 116, 117, 118, 119, 120, 121, 122, 113, 123] (by decide +kernel) (by decide +kernel)
set_option maxRecDepth 20000 in
theorem gX6_prepareMatching_X3_takeIdeas : GoodIn wsX6_prepareMatching (wsV RX6 194 RX3 yX3_takeIdeas wsX3_takeIdeas) := goodIn_app (goodIn_of _ (by decide +kernel)) ggX6_prepareMatching_X3_takeIdeas
set_option maxRecDepth 20000 in
theorem ggX6_prepareMatching_X3_takeLinks : GoodIn wsX6_prepareMatching wsX3_takeLinks := goodIn_r _ [70, 71, 55, 66, 47, 48, 15, 49, 17, 72, 73, 74, 53, 75, 56, 76, 77, 78, 79, 80, 81, 31, 32, 9, 33, 11, 34, 19, 20, 21, 82, 83, 84, 85, 57, 58, 86, 87, 88, 89, 90, 91, 92, 93, 94, 95, 96, 97, 98, 115, 116, 117, 118, 119, 120, 121, 122, 113, 112] (by decide +kernel) (by decide +kernel)
set_option maxRecDepth 20000 in
theorem gX6_prepareMatching_X3_takeLinks : GoodIn wsX6_prepareMatching (wsV RX6 198 RX3 yX3_takeLinks wsX3_takeLinks) := goodIn_app (goodIn_of _ (by decide +kernel)) ggX6_prepareMatching_X3_takeLinks
theorem dX6_prepareMatching_0 : decode cX6_prepareMatching 0 = .ok (.aload_n 0, 1) := by decide +kernel
theorem dX6_prepareMatching_1 : decode cX6_prepareMatching 1 = .ok (.getfield 37, 3) := by decide +kernel
theorem dX6_prepareMatching_4 : decode cX6_prepareMatching 4 = .ok (.aload_n 0, 1) := by decide +kernel
theorem dX6_prepareMatching_5 : decode cX6_prepareMatching 5 = .ok (.getfield 12, 3) := by decide +kernel
theorem dX6_prepareMatching_8 : decode cX6_prepareMatching 8 = .ok (.getfield 87, 3) := by decide +kernel
theorem dX6_prepareMatching_11 : decode cX6_prepareMatching 11 = .ok (.invokevirtual 116, 3) := by decide +kernel
theorem dX6_prepareMatching_14 : decode cX6_prepareMatching 14 = .ok (.aload_n 0, 1) := by decide +kernel
theorem dX6_prepareMatching_15 : decode cX6_prepareMatching 15 = .ok (.getfield 37, 3) := by decide +kernel
theorem dX6_prepareMatching_18 : decode cX6_prepareMatching 18 = .ok (.aload_n 0, 1) := by decide +kernel
theorem dX6_prepareMatching_19 : decode cX6_prepareMatching 19 = .ok (.getfield 30, 3) := by decide +kernel
theorem dX6_prepareMatching_22 : decode cX6_prepareMatching 22 = .ok (.invokevirtual 120, 3) := by decide +kernel
theorem dX6_prepareMatching_25 : decode cX6_prepareMatching 25 = .ok (.aload_n 0, 1) := by decide +kernel
theorem dX6_prepareMatching_26 : decode cX6_prepareMatching 26 = .ok (.getfield 50, 3) := by decide +kernel
theorem dX6_prepareMatching_29 : decode cX6_prepareMatching 29 = .ok (.aload_n 0, 1) := by decide +kernel
theorem dX6_prepareMatching_30 : decode cX6_prepareMatching 30 = .ok (.getfield 12, 3) := by decide +kernel
theorem dX6_prepareMatching_33 : decode cX6_prepareMatching 33 = .ok (.aload_n 1, 1) := by decide +kernel
theorem dX6_prepareMatching_34 : decode cX6_prepareMatching 34 = .ok (.aload_n 0, 1) := by decide +kernel
theorem dX6_prepareMatching_35 : decode cX6_prepareMatching 35 = .ok (.getfield 23, 3) := by decide +kernel
theorem dX6_prepareMatching_38 : decode cX6_prepareMatching 38 = .ok (.invokevirtual 194, 3) := by decide +kernel
theorem dX6_prepareMatching_41 : decode cX6_prepareMatching 41 = .ok (.aload_n 0, 1) := by decide +kernel
theorem dX6_prepareMatching_42 : decode cX6_prepareMatching 42 = .ok (.getfield 50, 3) := by decide +kernel
theorem dX6_prepareMatching_45 : decode cX6_prepareMatching 45 = .ok (.aload_n 0, 1) := by decide +kernel
theorem dX6_prepareMatching_46 : decode cX6_prepareMatching 46 = .ok (.getfield 12, 3) := by decide +kernel
theorem dX6_prepareMatching_49 : decode cX6_prepareMatching 49 = .ok (.getfield 87, 3) := by decide +kernel
theorem dX6_prepareMatching_52 : decode cX6_prepareMatching 52 = .ok (.aload_n 0, 1) := by decide +kernel
theorem dX6_prepareMatching_53 : decode cX6_prepareMatching 53 = .ok (.getfield 37, 3) := by decide +kernel
theorem dX6_prepareMatching_56 : decode cX6_prepareMatching 56 = .ok (.aload_n 1, 1) := by decide +kernel
theorem dX6_prepareMatching_57 : decode cX6_prepareMatching 57 = .ok (.getfield 87, 3) := by decide +kernel
theorem dX6_prepareMatching_60 : decode cX6_prepareMatching 60 = .ok (.invokevirtual 198, 3) := by decide +kernel
theorem dX6_prepareMatching_63 : decode cX6_prepareMatching 63 = .ok (.return_, 1) := by decide +kernel
set_option maxRecDepth 20000 in
theorem ggX6_markOf_X2_count : GoodIn wsX6_markOf wsX2_count := goodIn_r _ [6, 7, 8, 9, 10, 11, 12, 13, 14, 15, 16, 17, 18, 19, 20, 136, 137] (by decide +kernel) (by decide +kernel)
set_option maxRecDepth 20000 in
theorem gX6_markOf_X2_count : GoodIn wsX6_markOf (wsV RX6 113 RX2 yX2_count wsX2_count) := goodIn_app (goodIn_of _ (by decide +kernel)) ggX6_markOf_X2_count
set_option maxRecDepth 20000 in
theorem ggX6_markOf_X6_prepareMatching : GoodIn wsX6_markOf wsX6_prepareMatching := goodIn_r _ [25, 26, 27, 28, 1, 29, 30, 31, 32, 5, 33, 7, 34, 35, 36, 11, 37, 13, 38, 9, 10, 12, 39, 40, 41, 42, 43, 44, 45, 46, 47, 48, 49, 50, 8, 51, 52, 53, 54, 55, 56, 57, 58, 59, 60, 61, 62, 63, 64, 65, 66, 67, 68, 69, 70, 71, 72, 73, 74, 75, 76, 77, 78, 79, 80, 81, 82, 83, 84, 85, 86, 87, 88, 89, 90, 91, 92, 93, 94, 95, 96, 97, 98, 99, 100, 101, 102, 24, 103, 104, 15, 16, 17, 18, 19, 20, 105, 106, 107, 126, 127, 128, 129, 130, 131, 132, 133, 134, 135, 123, 124, 125, 136, 137, 138, 139, 140, 141, 142, 143, 144, 145, 146, 147] (by decide +kernel) (by decide +kernel)
set_option maxRecDepth 20000 in
theorem gX6_markOf_X6_prepareMatching : GoodIn wsX6_markOf (wsV RX6 130 RX6 yX6_prepareMatching wsX6_prepareMatching) := goodIn_app (goodIn_of _ (by decide +kernel)) ggX6_markOf_X6_prepareMatching
set_option maxRecDepth 20000 in
theorem ggX6_markOf_X3_findBest : GoodIn wsX6_markOf wsX3_findBest := goodIn_r _ [111, 112, 113, 114, 69, 115, 87, 71, 116, 117, 72, 74, 9, 10, 11, 12, 13, 118, 35, 36, 37, 38, 98, 99, 100, 101, 73, 82, 63, 64, 65, 119, 120, 121, 122, 92, 105, 106, 107, 139, 140, 141, 142, 143, 144, 145, 146, 137] (by decide +kernel) (by decide +kernel)
set_option maxRecDepth 20000 in
theorem gX6_markOf_X3_findBest : GoodIn wsX6_markOf (wsV RX6 134 RX3 yX3_findBest wsX3_findBest) := goodIn_app (goodIn_of _ (by decide +kernel)) ggX6_markOf_X3_findBest
theorem dX6_markOf_0 : decode cX6_markOf 0 = .ok (.iconst 4, 1) := by decide +kernel
theorem dX6_markOf_1 : decode cX6_markOf 1 = .ok (.aload_n 1, 1) := by decide +kernel
theorem dX6_markOf_2 : decode cX6_markOf 2 = .ok (.getfield 87, 3) := by decide +kernel
theorem dX6_markOf_5 : decode cX6_markOf 5 = .ok (.invokevirtual 113, 3) := by decide +kernel
theorem dX6_markOf_8 : decode cX6_markOf 8 = .ok (.imul, 1) := by decide +kernel
theorem dX6_markOf_9 : decode cX6_markOf 9 = .ok (.istore_n 2, 1) := by decide +kernel
theorem dX6_markOf_10 : decode cX6_markOf 10 = .ok (.iload_n 2, 1) := by decide +kernel
theorem dX6_markOf_11 : decode cX6_markOf 11 = .ok (.ifCond .gt 5, 3) := by decide +kernel
theorem dX6_markOf_14 : decode cX6_markOf 14 = .ok (.iconst 0, 1) := by decide +kernel
theorem dX6_markOf_15 : decode cX6_markOf 15 = .ok (.ireturn, 1) := by decide +kernel
theorem dX6_markOf_16 : decode cX6_markOf 16 = .ok (.aload_n 0, 1) := by decide +kernel
theorem dX6_markOf_17 : decode cX6_markOf 17 = .ok (.aload_n 1, 1) := by decide +kernel
theorem dX6_markOf_18 : decode cX6_markOf 18 = .ok (.invokevirtual 130, 3) := by decide +kernel
theorem dX6_markOf_21 : decode cX6_markOf 21 = .ok (.bipush 100, 2) := by decide +kernel
theorem dX6_markOf_23 : decode cX6_markOf 23 = .ok (.aload_n 0, 1) := by decide +kernel
theorem dX6_markOf_24 : decode cX6_markOf 24 = .ok (.getfield 50, 3) := by decide +kernel
theorem dX6_markOf_27 : decode cX6_markOf 27 = .ok (.iconst (-1), 1) := by decide +kernel
theorem dX6_markOf_28 : decode cX6_markOf 28 = .ok (.invokevirtual 134, 3) := by decide +kernel
theorem dX6_markOf_31 : decode cX6_markOf 31 = .ok (.imul, 1) := by decide +kernel
theorem dX6_markOf_32 : decode cX6_markOf 32 = .ok (.iload_n 2, 1) := by decide +kernel
theorem dX6_markOf_33 : decode cX6_markOf 33 = .ok (.idiv, 1) := by decide +kernel
theorem dX6_markOf_34 : decode cX6_markOf 34 = .ok (.ireturn, 1) := by decide +kernel
set_option maxRecDepth 20000 in
theorem ggX6_findBestLink_X6_prepareMatching : GoodIn wsX6_findBestLink wsX6_prepareMatching := goodIn_r _ [11, 12, 4, 13, 1, 14, 15, 16, 17, 18, 19, 20, 21, 22, 23, 24, 25, 26, 27, 28, 29, 30, 31, 32, 33, 34, 35, 36, 37, 38, 39, 40, 41, 42, 43, 44, 45, 46, 47, 48, 49, 50, 51, 52, 53, 54, 55, 56, 57, 58, 59, 60, 61, 62, 63, 64, 65, 66, 67, 68, 69, 70, 71, 72, 73, 74, 75, 76, 77, 78, 79, 80, 81, 82, 83, 84, 85, 86, 87, 88, 89, 90, 91, 92, 93, 94, 95, 10, 96, 97, 98, 99, 100, 101, 102, 103, 104, 105, 106, 131, 132, 133, 134, 135, 136, 137, 138, 139, 140, 141, 142, 143, 144, 145, 146, 147, 148, 149, 150, 151, 152, 153, 154, 155] (by decide +kernel) (by decide +kernel)
set_option maxRecDepth 20000 in
theorem gX6_findBestLink_X6_prepareMatching : GoodIn wsX6_findBestLink (wsV RX6 130 RX6 yX6_prepareMatching wsX6_prepareMatching) := goodIn_app (goodIn_of _ (by decide +kernel)) ggX6_findBestLink_X6_prepareMatching
set_option maxRecDepth 20000 in
theorem ggX6_findBestLink_X3_findBest : GoodIn wsX6_findBestLink wsX3_findBest := goodIn_r _ [110, 111, 112, 113, 62, 114, 80, 64, 115, 116, 65, 67, 28, 29, 24, 30, 26, 117, 22, 23, 25, 27, 91, 92, 93, 94, 66, 75, 56, 57, 58, 118, 119, 120, 121, 85, 104, 105, 106, 147, 148, 149, 150, 151, 152, 153, 154, 145] (by decide +kernel) (by decide +kernel)
set_option maxRecDepth 20000 in
theorem gX6_findBestLink_X3_findBest : GoodIn wsX6_findBestLink (wsV RX6 134 RX3 yX3_findBest wsX3_findBest) := goodIn_app (goodIn_of _ (by decide +kernel)) ggX6_findBestLink_X3_findBest
set_option maxRecDepth 20000 in
theorem ggX6_findBestLink_X2_contains : GoodIn wsX6_findBestLink wsX2_contains := goodIn_r _ [125, 39, 40, 41, 18, 42, 20, 43, 28, 29, 24, 30, 26, 144, 145] (by decide +kernel) (by decide +kernel)
set_option maxRecDepth 20000 in
theorem gX6_findBestLink_X2_contains : GoodIn wsX6_findBestLink (wsV RX6 124 RX2 yX2_contains wsX2_contains) := goodIn_app (goodIn_of _ (by decide +kernel)) ggX6_findBestLink_X2_contains
set_option maxRecDepth 20000 in
theorem ggX6_findBestLink_X6_takeTrialLink : GoodIn wsX6_findBestLink wsX6_takeTrialLink := goodIn_r _ [129, 5, 4, 6, 12, 13, 15, 16, 17, 18, 19, 20, 21, 22, 23, 24, 25, 26, 27, 28, 29, 30, 130, 52, 53, 54, 39, 40, 41, 42, 43, 55, 56, 57, 58, 31, 32, 33, 34, 35, 36, 37, 38, 44, 45, 46, 47, 48, 49, 50, 51, 131, 132, 133, 134, 135, 136, 137, 138, 139, 140, 141, 142, 143, 144, 145, 146] (by decide +kernel) (by decide +kernel)
set_option maxRecDepth 20000 in
theorem gX6_findBestLink_X6_takeTrialLink : GoodIn wsX6_findBestLink (wsV RX6 202 RX6 yX6_takeTrialLink wsX6_takeTrialLink) := goodIn_app (goodIn_of _ (by decide +kernel)) ggX6_findBestLink_X6_takeTrialLink
set_option maxRecDepth 20000 in
theorem ggX6_findBestLink_X3_takeLinks : GoodIn wsX6_findBestLink wsX3_takeLinks := goodIn_r _ [79, 80, 64, 75, 56, 57, 24, 58, 26, 81, 82, 83, 62, 84, 65, 85, 86, 87, 88, 89, 90, 40, 41, 18, 42, 20, 43, 28, 29, 30, 91, 92, 93, 94, 66, 67, 95, 10, 96, 97, 98, 99, 100, 101, 102, 103, 104, 105, 106, 147, 148, 149, 150, 151, 152, 153, 154, 145, 144] (by decide +kernel) (by decide +kernel)
set_option maxRecDepth 20000 in
theorem gX6_findBestLink_X3_takeLinks : GoodIn wsX6_findBestLink (wsV RX6 198 RX3 yX3_takeLinks wsX3_takeLinks) := goodIn_app (goodIn_of _ (by decide +kernel)) ggX6_findBestLink_X3_takeLinks
theorem dX6_findBestLink_0 : decode cX6_findBestLink 0 = .ok (.aload_n 0, 1) := by decide +kernel
theorem dX6_findBestLink_1 : decode cX6_findBestLink 1 = .ok (.aload_n 1, 1) := by decide +kernel
theorem dX6_findBestLink_2 : decode cX6_findBestLink 2 = .ok (.invokevirtual 130, 3) := by decide +kernel
theorem dX6_findBestLink_5 : decode cX6_findBestLink 5 = .ok (.aload_n 0, 1) := by decide +kernel
theorem dX6_findBestLink_6 : decode cX6_findBestLink 6 = .ok (.getfield 50, 3) := by decide +kernel
theorem dX6_findBestLink_9 : decode cX6_findBestLink 9 = .ok (.iconst (-1), 1) := by decide +kernel
theorem dX6_findBestLink_10 : decode cX6_findBestLink 10 = .ok (.invokevirtual 134, 3) := by decide +kernel
theorem dX6_findBestLink_13 : decode cX6_findBestLink 13 = .ok (.istore_n 2, 1) := by decide +kernel
theorem dX6_findBestLink_14 : decode cX6_findBestLink 14 = .ok (.aload_n 0, 1) := by decide +kernel
theorem dX6_findBestLink_15 : decode cX6_findBestLink 15 = .ok (.iconst (-1), 1) := by decide +kernel
theorem dX6_findBestLink_16 : decode cX6_findBestLink 16 = .ok (.putfield 54, 3) := by decide +kernel
theorem dX6_findBestLink_19 : decode cX6_findBestLink 19 = .ok (.aload_n 0, 1) := by decide +kernel
theorem dX6_findBestLink_20 : decode cX6_findBestLink 20 = .ok (.iconst 0, 1) := by decide +kernel
theorem dX6_findBestLink_21 : decode cX6_findBestLink 21 = .ok (.putfield 58, 3) := by decide +kernel
theorem dX6_findBestLink_24 : decode cX6_findBestLink 24 = .ok (.iconst 0, 1) := by decide +kernel
theorem dX6_findBestLink_25 : decode cX6_findBestLink 25 = .ok (.istore_n 3, 1) := by decide +kernel
theorem dX6_findBestLink_26 : decode cX6_findBestLink 26 = .ok (.iload_n 3, 1) := by decide +kernel
theorem dX6_findBestLink_27 : decode cX6_findBestLink 27 = .ok (.aload_n 0, 1) := by decide +kernel
theorem dX6_findBestLink_28 : decode cX6_findBestLink 28 = .ok (.getfield 12, 3) := by decide +kernel
theorem dX6_findBestLink_31 : decode cX6_findBestLink 31 = .ok (.getfield 69, 3) := by decide +kernel
theorem dX6_findBestLink_34 : decode cX6_findBestLink 34 = .ok (.if_icmp .ge 146, 3) := by decide +kernel
theorem dX6_findBestLink_37 : decode cX6_findBestLink 37 = .ok (.iconst 0, 1) := by decide +kernel
theorem dX6_findBestLink_38 : decode cX6_findBestLink 38 = .ok (.istore 4, 2) := by decide +kernel
theorem dX6_findBestLink_40 : decode cX6_findBestLink 40 = .ok (.iload 4, 2) := by decide +kernel
theorem dX6_findBestLink_42 : decode cX6_findBestLink 42 = .ok (.aload_n 0, 1) := by decide +kernel
theorem dX6_findBestLink_43 : decode cX6_findBestLink 43 = .ok (.getfield 12, 3) := by decide +kernel
theorem dX6_findBestLink_46 : decode cX6_findBestLink 46 = .ok (.getfield 69, 3) := by decide +kernel
theorem dX6_findBestLink_49 : decode cX6_findBestLink 49 = .ok (.if_icmp .ge 125, 3) := by decide +kernel
theorem dX6_findBestLink_52 : decode cX6_findBestLink 52 = .ok (.iconst 0, 1) := by decide +kernel
theorem dX6_findBestLink_53 : decode cX6_findBestLink 53 = .ok (.istore 5, 2) := by decide +kernel
theorem dX6_findBestLink_55 : decode cX6_findBestLink 55 = .ok (.iload 5, 2) := by decide +kernel
theorem dX6_findBestLink_57 : decode cX6_findBestLink 57 = .ok (.iconst 4, 1) := by decide +kernel
theorem dX6_findBestLink_58 : decode cX6_findBestLink 58 = .ok (.if_icmp .ge 110, 3) := by decide +kernel
theorem dX6_findBestLink_61 : decode cX6_findBestLink 61 = .ok (.iload_n 3, 1) := by decide +kernel
theorem dX6_findBestLink_62 : decode cX6_findBestLink 62 = .ok (.iload 4, 2) := by decide +kernel
theorem dX6_findBestLink_64 : decode cX6_findBestLink 64 = .ok (.if_icmp .eq 98, 3) := by decide +kernel
theorem dX6_findBestLink_67 : decode cX6_findBestLink 67 = .ok (.aload_n 0, 1) := by decide +kernel
theorem dX6_findBestLink_68 : decode cX6_findBestLink 68 = .ok (.getfield 12, 3) := by decide +kernel
