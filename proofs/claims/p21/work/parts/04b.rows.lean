theorem dX3_findBest_7 : decode cX3_findBest 7 = .ok (.iconst 0, 1) := by decide +kernel
theorem dX3_findBest_8 : decode cX3_findBest 8 = .ok (.iconst 0, 1) := by decide +kernel
theorem dX3_findBest_9 : decode cX3_findBest 9 = .ok (.invokestatic 88, 3) := by decide +kernel
theorem dX3_findBest_12 : decode cX3_findBest 12 = .ok (.aload_n 0, 1) := by decide +kernel
theorem dX3_findBest_13 : decode cX3_findBest 13 = .ok (.getfield 85, 3) := by decide +kernel
theorem dX3_findBest_16 : decode cX3_findBest 16 = .ok (.ireturn, 1) := by decide +kernel
set_option maxRecDepth 20000 in
theorem ggX3_pupilIdeaFor_X4_get : GoodIn wsX3_pupilIdeaFor wsX4_get := goodIn_r _ [7, 8, 17] (by decide +kernel) (by decide +kernel)
set_option maxRecDepth 20000 in
theorem gX3_pupilIdeaFor_X4_get : GoodIn wsX3_pupilIdeaFor (wsV RX3 47 RX4 yX4_get wsX4_get) := goodIn_app (goodIn_of _ (by decide +kernel)) ggX3_pupilIdeaFor_X4_get
theorem dX3_pupilIdeaFor_0 : decode cX3_pupilIdeaFor 0 = .ok (.iconst 0, 1) := by decide +kernel
theorem dX3_pupilIdeaFor_1 : decode cX3_pupilIdeaFor 1 = .ok (.istore_n 2, 1) := by decide +kernel
theorem dX3_pupilIdeaFor_2 : decode cX3_pupilIdeaFor 2 = .ok (.iload_n 2, 1) := by decide +kernel
theorem dX3_pupilIdeaFor_3 : decode cX3_pupilIdeaFor 3 = .ok (.aload_n 0, 1) := by decide +kernel
theorem dX3_pupilIdeaFor_4 : decode cX3_pupilIdeaFor 4 = .ok (.getfield 38, 3) := by decide +kernel
theorem dX3_pupilIdeaFor_7 : decode cX3_pupilIdeaFor 7 = .ok (.if_icmp .ge 23, 3) := by decide +kernel
theorem dX3_pupilIdeaFor_10 : decode cX3_pupilIdeaFor 10 = .ok (.aload_n 0, 1) := by decide +kernel
theorem dX3_pupilIdeaFor_11 : decode cX3_pupilIdeaFor 11 = .ok (.getfield 29, 3) := by decide +kernel
theorem dX3_pupilIdeaFor_14 : decode cX3_pupilIdeaFor 14 = .ok (.iload_n 2, 1) := by decide +kernel
theorem dX3_pupilIdeaFor_15 : decode cX3_pupilIdeaFor 15 = .ok (.invokevirtual 47, 3) := by decide +kernel
theorem dX3_pupilIdeaFor_18 : decode cX3_pupilIdeaFor 18 = .ok (.iload_n 1, 1) := by decide +kernel
theorem dX3_pupilIdeaFor_19 : decode cX3_pupilIdeaFor 19 = .ok (.if_icmp .ne 5, 3) := by decide +kernel
theorem dX3_pupilIdeaFor_22 : decode cX3_pupilIdeaFor 22 = .ok (.iload_n 2, 1) := by decide +kernel
theorem dX3_pupilIdeaFor_23 : decode cX3_pupilIdeaFor 23 = .ok (.ireturn, 1) := by decide +kernel
theorem dX3_pupilIdeaFor_24 : decode cX3_pupilIdeaFor 24 = .ok (.iinc 2 1, 3) := by decide +kernel
theorem dX3_pupilIdeaFor_27 : decode cX3_pupilIdeaFor 27 = .ok (.goto (-25), 3) := by decide +kernel
theorem dX3_pupilIdeaFor_30 : decode cX3_pupilIdeaFor 30 = .ok (.iconst (-1), 1) := by decide +kernel
theorem dX3_pupilIdeaFor_31 : decode cX3_pupilIdeaFor 31 = .ok (.ireturn, 1) := by decide +kernel
set_option maxRecDepth 20000 in
theorem ggX3_extend_X4_get : GoodIn wsX3_extend wsX4_get := goodIn_r _ [11, 12, 46] (by decide +kernel) (by decide +kernel)
set_option maxRecDepth 20000 in
theorem gX3_extend_X4_get : GoodIn wsX3_extend (wsV RX3 47 RX4 yX4_get wsX4_get) := goodIn_app (goodIn_of _ (by decide +kernel)) ggX3_extend_X4_get
set_option maxRecDepth 20000 in
theorem ggX3_extend_X4_become : GoodIn wsX3_extend wsX4_become := goodIn_r _ [16, 12, 17, 8, 9, 10, 11, 46] (by decide +kernel) (by decide +kernel)
set_option maxRecDepth 20000 in
theorem gX3_extend_X4_become : GoodIn wsX3_extend (wsV RX3 92 RX4 yX4_become wsX4_become) := goodIn_app (goodIn_of _ (by decide +kernel)) ggX3_extend_X4_become
set_option maxRecDepth 20000 in
theorem ggX3_extend_X3_isAlike : GoodIn wsX3_extend wsX3_isAlike := goodIn_r _ [22, 23, 7, 8, 9, 10, 11, 12, 38, 39, 40, 41, 42, 43, 44, 45, 46] (by decide +kernel) (by decide +kernel)
set_option maxRecDepth 20000 in
theorem gX3_extend_X3_isAlike : GoodIn wsX3_extend (wsV RX3 70 RX3 yX3_isAlike wsX3_isAlike) := goodIn_app (goodIn_of _ (by decide +kernel)) ggX3_extend_X3_isAlike
set_option maxRecDepth 20000 in
theorem ggX3_extend_X4_set : GoodIn wsX3_extend wsX4_set := goodIn_r _ [27, 12, 46] (by decide +kernel) (by decide +kernel)
set_option maxRecDepth 20000 in
theorem gX3_extend_X4_set : GoodIn wsX3_extend (wsV RX3 56 RX4 yX4_set wsX4_set) := goodIn_app (goodIn_of _ (by decide +kernel)) ggX3_extend_X4_set
set_option maxRecDepth 20000 in
theorem ggX3_extend_X3_pointsWithEarlier : GoodIn wsX3_extend wsX3_pointsWithEarlier := goodIn_r _ [31, 5, 32, 7, 8, 9, 10, 11, 12, 33, 34, 21, 35, 38, 39, 40, 41, 42, 43, 44, 45, 46] (by decide +kernel) (by decide +kernel)
set_option maxRecDepth 20000 in
theorem gX3_extend_X3_pointsWithEarlier : GoodIn wsX3_extend (wsV RX3 96 RX3 yX3_pointsWithEarlier wsX3_pointsWithEarlier) := goodIn_app (goodIn_of _ (by decide +kernel)) ggX3_extend_X3_pointsWithEarlier
set_option maxRecDepth 20000 in
theorem ggX3_extend_X3_extend : GoodIn wsX3_extend wsX3_extend := goodIn_r _ [0, 1, 2, 3, 4, 5, 6, 7, 8, 9, 10, 11, 12, 13, 14, 15, 16, 17, 18, 19, 20, 21, 22, 23, 24, 25, 26, 27, 28, 29, 30, 31, 32, 33, 34, 35, 36, 37, 38, 39, 40, 41, 42, 43, 44, 45, 46] (by decide +kernel) (by decide +kernel)
set_option maxRecDepth 20000 in
theorem gX3_extend_X3_extend : GoodIn wsX3_extend (va_wsS RX3 88 yX3_extend wsX3_extend) := goodIn_app (goodIn_of _ (by decide +kernel)) ggX3_extend_X3_extend
theorem dX3_extend_0 : decode cX3_extend 0 = .ok (.iload_n 3, 1) := by decide +kernel
theorem dX3_extend_1 : decode cX3_extend 1 = .ok (.aload_n 0, 1) := by decide +kernel
theorem dX3_extend_2 : decode cX3_extend 2 = .ok (.getfield 23, 3) := by decide +kernel
theorem dX3_extend_5 : decode cX3_extend 5 = .ok (.iload_n 1, 1) := by decide +kernel
theorem dX3_extend_6 : decode cX3_extend 6 = .ok (.invokevirtual 47, 3) := by decide +kernel
theorem dX3_extend_9 : decode cX3_extend 9 = .ok (.iadd, 1) := by decide +kernel
theorem dX3_extend_10 : decode cX3_extend 10 = .ok (.aload_n 0, 1) := by decide +kernel
theorem dX3_extend_11 : decode cX3_extend 11 = .ok (.getfield 85, 3) := by decide +kernel
theorem dX3_extend_14 : decode cX3_extend 14 = .ok (.if_icmp .gt 4, 3) := by decide +kernel
theorem dX3_extend_17 : decode cX3_extend 17 = .ok (.return_, 1) := by decide +kernel
theorem dX3_extend_18 : decode cX3_extend 18 = .ok (.iload_n 1, 1) := by decide +kernel
theorem dX3_extend_19 : decode cX3_extend 19 = .ok (.aload_n 0, 1) := by decide +kernel
theorem dX3_extend_20 : decode cX3_extend 20 = .ok (.getfield 38, 3) := by decide +kernel
theorem dX3_extend_23 : decode cX3_extend 23 = .ok (.if_icmp .ge 8, 3) := by decide +kernel
theorem dX3_extend_26 : decode cX3_extend 26 = .ok (.iload_n 1, 1) := by decide +kernel
theorem dX3_extend_27 : decode cX3_extend 27 = .ok (.iconst 5, 1) := by decide +kernel
theorem dX3_extend_28 : decode cX3_extend 28 = .ok (.if_icmp .lt 20, 3) := by decide +kernel
theorem dX3_extend_31 : decode cX3_extend 31 = .ok (.aload_n 0, 1) := by decide +kernel
theorem dX3_extend_32 : decode cX3_extend 32 = .ok (.iload_n 3, 1) := by decide +kernel
theorem dX3_extend_33 : decode cX3_extend 33 = .ok (.putfield 85, 3) := by decide +kernel
theorem dX3_extend_36 : decode cX3_extend 36 = .ok (.aload_n 0, 1) := by decide +kernel
theorem dX3_extend_37 : decode cX3_extend 37 = .ok (.getfield 29, 3) := by decide +kernel
theorem dX3_extend_40 : decode cX3_extend 40 = .ok (.aload_n 0, 1) := by decide +kernel
theorem dX3_extend_41 : decode cX3_extend 41 = .ok (.getfield 26, 3) := by decide +kernel
theorem dX3_extend_44 : decode cX3_extend 44 = .ok (.invokevirtual 92, 3) := by decide +kernel
theorem dX3_extend_47 : decode cX3_extend 47 = .ok (.return_, 1) := by decide +kernel
theorem dX3_extend_48 : decode cX3_extend 48 = .ok (.iconst 0, 1) := by decide +kernel
theorem dX3_extend_49 : decode cX3_extend 49 = .ok (.istore 4, 2) := by decide +kernel
theorem dX3_extend_51 : decode cX3_extend 51 = .ok (.iload 4, 2) := by decide +kernel
theorem dX3_extend_53 : decode cX3_extend 53 = .ok (.aload_n 0, 1) := by decide +kernel
theorem dX3_extend_54 : decode cX3_extend 54 = .ok (.getfield 41, 3) := by decide +kernel
theorem dX3_extend_57 : decode cX3_extend 57 = .ok (.if_icmp .ge 60, 3) := by decide +kernel
theorem dX3_extend_60 : decode cX3_extend 60 = .ok (.aload_n 0, 1) := by decide +kernel
theorem dX3_extend_61 : decode cX3_extend 61 = .ok (.iload_n 1, 1) := by decide +kernel
theorem dX3_extend_62 : decode cX3_extend 62 = .ok (.iload 4, 2) := by decide +kernel
theorem dX3_extend_64 : decode cX3_extend 64 = .ok (.invokevirtual 70, 3) := by decide +kernel
theorem dX3_extend_67 : decode cX3_extend 67 = .ok (.ifCond .eq 44, 3) := by decide +kernel
theorem dX3_extend_70 : decode cX3_extend 70 = .ok (.iload_n 2, 1) := by decide +kernel
theorem dX3_extend_71 : decode cX3_extend 71 = .ok (.iload 4, 2) := by decide +kernel
theorem dX3_extend_73 : decode cX3_extend 73 = .ok (.ishr, 1) := by decide +kernel
theorem dX3_extend_74 : decode cX3_extend 74 = .ok (.iconst 1, 1) := by decide +kernel
theorem dX3_extend_75 : decode cX3_extend 75 = .ok (.iand, 1) := by decide +kernel
theorem dX3_extend_76 : decode cX3_extend 76 = .ok (.ifCond .ne 35, 3) := by decide +kernel
theorem dX3_extend_79 : decode cX3_extend 79 = .ok (.aload_n 0, 1) := by decide +kernel
theorem dX3_extend_80 : decode cX3_extend 80 = .ok (.getfield 26, 3) := by decide +kernel
theorem dX3_extend_83 : decode cX3_extend 83 = .ok (.iload_n 1, 1) := by decide +kernel
theorem dX3_extend_84 : decode cX3_extend 84 = .ok (.iload 4, 2) := by decide +kernel
theorem dX3_extend_86 : decode cX3_extend 86 = .ok (.invokevirtual 56, 3) := by decide +kernel
theorem dX3_extend_89 : decode cX3_extend 89 = .ok (.aload_n 0, 1) := by decide +kernel
theorem dX3_extend_90 : decode cX3_extend 90 = .ok (.iload_n 1, 1) := by decide +kernel
theorem dX3_extend_91 : decode cX3_extend 91 = .ok (.iconst 1, 1) := by decide +kernel
theorem dX3_extend_92 : decode cX3_extend 92 = .ok (.iadd, 1) := by decide +kernel
theorem dX3_extend_93 : decode cX3_extend 93 = .ok (.iload_n 2, 1) := by decide +kernel
theorem dX3_extend_94 : decode cX3_extend 94 = .ok (.iconst 1, 1) := by decide +kernel
theorem dX3_extend_95 : decode cX3_extend 95 = .ok (.iload 4, 2) := by decide +kernel
theorem dX3_extend_97 : decode cX3_extend 97 = .ok (.ishl, 1) := by decide +kernel
theorem dX3_extend_98 : decode cX3_extend 98 = .ok (.ior, 1) := by decide +kernel
theorem dX3_extend_99 : decode cX3_extend 99 = .ok (.iload_n 3, 1) := by decide +kernel
theorem dX3_extend_100 : decode cX3_extend 100 = .ok (.aload_n 0, 1) := by decide +kernel
theorem dX3_extend_101 : decode cX3_extend 101 = .ok (.iload_n 1, 1) := by decide +kernel
theorem dX3_extend_102 : decode cX3_extend 102 = .ok (.iload 4, 2) := by decide +kernel
theorem dX3_extend_104 : decode cX3_extend 104 = .ok (.invokevirtual 96, 3) := by decide +kernel
theorem dX3_extend_107 : decode cX3_extend 107 = .ok (.iadd, 1) := by decide +kernel
theorem dX3_extend_108 : decode cX3_extend 108 = .ok (.invokestatic 88, 3) := by decide +kernel
theorem dX3_extend_111 : decode cX3_extend 111 = .ok (.iinc 4 1, 3) := by decide +kernel
theorem dX3_extend_114 : decode cX3_extend 114 = .ok (.goto (-63), 3) := by decide +kernel
theorem dX3_extend_117 : decode cX3_extend 117 = .ok (.aload_n 0, 1) := by decide +kernel
theorem dX3_extend_118 : decode cX3_extend 118 = .ok (.getfield 26, 3) := by decide +kernel
theorem dX3_extend_121 : decode cX3_extend 121 = .ok (.iload_n 1, 1) := by decide +kernel
theorem dX3_extend_122 : decode cX3_extend 122 = .ok (.iconst (-1), 1) := by decide +kernel
theorem dX3_extend_123 : decode cX3_extend 123 = .ok (.invokevirtual 56, 3) := by decide +kernel
theorem dX3_extend_126 : decode cX3_extend 126 = .ok (.aload_n 0, 1) := by decide +kernel
theorem dX3_extend_127 : decode cX3_extend 127 = .ok (.iload_n 1, 1) := by decide +kernel
theorem dX3_extend_128 : decode cX3_extend 128 = .ok (.iconst 1, 1) := by decide +kernel
theorem dX3_extend_129 : decode cX3_extend 129 = .ok (.iadd, 1) := by decide +kernel
theorem dX3_extend_130 : decode cX3_extend 130 = .ok (.iload_n 2, 1) := by decide +kernel
theorem dX3_extend_131 : decode cX3_extend 131 = .ok (.iload_n 3, 1) := by decide +kernel
theorem dX3_extend_132 : decode cX3_extend 132 = .ok (.invokestatic 88, 3) := by decide +kernel
theorem dX3_extend_135 : decode cX3_extend 135 = .ok (.return_, 1) := by decide +kernel
set_option maxRecDepth 20000 in
theorem ggX3_mostByTrying_X3_mostOfAll : GoodIn wsX3_mostByTrying wsX3_mostOfAll := goodIn_r _ [4, 5, 6, 7, 8, 9, 10, 11, 12, 13, 14, 15, 16, 17, 1, 2, 3, 18, 19, 20, 21, 22, 23, 24, 25, 26, 27, 28, 29, 30, 31, 32, 33, 34, 35, 36, 37, 38, 39, 40, 41, 42, 43] (by decide +kernel) (by decide +kernel)
set_option maxRecDepth 20000 in
theorem gX3_mostByTrying_X3_mostOfAll : GoodIn wsX3_mostByTrying (va_wsS RX3 99 yX3_mostOfAll wsX3_mostOfAll) := goodIn_app (goodIn_of _ (by decide +kernel)) ggX3_mostByTrying_X3_mostOfAll
theorem dX3_mostByTrying_0 : decode cX3_mostByTrying 0 = .ok (.aload_n 0, 1) := by decide +kernel
theorem dX3_mostByTrying_1 : decode cX3_mostByTrying 1 = .ok (.iconst 0, 1) := by decide +kernel
theorem dX3_mostByTrying_2 : decode cX3_mostByTrying 2 = .ok (.iconst 0, 1) := by decide +kernel
theorem dX3_mostByTrying_3 : decode cX3_mostByTrying 3 = .ok (.iconst 0, 1) := by decide +kernel
theorem dX3_mostByTrying_4 : decode cX3_mostByTrying 4 = .ok (.invokestatic 99, 3) := by decide +kernel
theorem dX3_mostByTrying_7 : decode cX3_mostByTrying 7 = .ok (.ireturn, 1) := by decide +kernel
set_option maxRecDepth 20000 in
theorem ggX3_mostOfAll_X4_set : GoodIn wsX3_mostOfAll wsX4_set := goodIn_r _ [12, 13, 42] (by decide +kernel) (by decide +kernel)
set_option maxRecDepth 20000 in
theorem gX3_mostOfAll_X4_set : GoodIn wsX3_mostOfAll (wsV RX3 56 RX4 yX4_set wsX4_set) := goodIn_app (goodIn_of _ (by decide +kernel)) ggX3_mostOfAll_X4_set
set_option maxRecDepth 20000 in
theorem ggX3_mostOfAll_X3_mostOfAll : GoodIn wsX3_mostOfAll wsX3_mostOfAll := goodIn_r _ [0, 1, 2, 3, 4, 5, 6, 7, 8, 9, 10, 11, 12, 13, 14, 15, 16, 17, 18, 19, 20, 21, 22, 23, 24, 25, 26, 27, 28, 29, 30, 31, 32, 33, 34, 35, 36, 37, 38, 39, 40, 41, 42] (by decide +kernel) (by decide +kernel)
set_option maxRecDepth 20000 in
theorem gX3_mostOfAll_X3_mostOfAll : GoodIn wsX3_mostOfAll (va_wsS RX3 99 yX3_mostOfAll wsX3_mostOfAll) := goodIn_app (goodIn_of _ (by decide +kernel)) ggX3_mostOfAll_X3_mostOfAll
set_option maxRecDepth 20000 in
theorem ggX3_mostOfAll_X3_isAlike : GoodIn wsX3_mostOfAll wsX3_isAlike := goodIn_r _ [20, 21, 22, 23, 24, 11, 25, 13, 34, 35, 36, 37, 38, 39, 40, 41, 42] (by decide +kernel) (by decide +kernel)
set_option maxRecDepth 20000 in
theorem gX3_mostOfAll_X3_isAlike : GoodIn wsX3_mostOfAll (wsV RX3 70 RX3 yX3_isAlike wsX3_isAlike) := goodIn_app (goodIn_of _ (by decide +kernel)) ggX3_mostOfAll_X3_isAlike
set_option maxRecDepth 20000 in
theorem ggX3_mostOfAll_X3_pointsWithEarlier : GoodIn wsX3_mostOfAll wsX3_pointsWithEarlier := goodIn_r _ [29, 2, 30, 22, 23, 24, 11, 25, 13, 31, 32, 16, 33, 34, 35, 36, 37, 38, 39, 40, 41, 42] (by decide +kernel) (by decide +kernel)
set_option maxRecDepth 20000 in
theorem gX3_mostOfAll_X3_pointsWithEarlier : GoodIn wsX3_mostOfAll (wsV RX3 96 RX3 yX3_pointsWithEarlier wsX3_pointsWithEarlier) := goodIn_app (goodIn_of _ (by decide +kernel)) ggX3_mostOfAll_X3_pointsWithEarlier
theorem dX3_mostOfAll_0 : decode cX3_mostOfAll 0 = .ok (.iload_n 1, 1) := by decide +kernel
theorem dX3_mostOfAll_1 : decode cX3_mostOfAll 1 = .ok (.aload_n 0, 1) := by decide +kernel
theorem dX3_mostOfAll_2 : decode cX3_mostOfAll 2 = .ok (.getfield 38, 3) := by decide +kernel
theorem dX3_mostOfAll_5 : decode cX3_mostOfAll 5 = .ok (.if_icmp .ge 8, 3) := by decide +kernel
theorem dX3_mostOfAll_8 : decode cX3_mostOfAll 8 = .ok (.iload_n 1, 1) := by decide +kernel
theorem dX3_mostOfAll_9 : decode cX3_mostOfAll 9 = .ok (.iconst 5, 1) := by decide +kernel
theorem dX3_mostOfAll_10 : decode cX3_mostOfAll 10 = .ok (.if_icmp .lt 5, 3) := by decide +kernel
theorem dX3_mostOfAll_13 : decode cX3_mostOfAll 13 = .ok (.iload_n 3, 1) := by decide +kernel
theorem dX3_mostOfAll_14 : decode cX3_mostOfAll 14 = .ok (.ireturn, 1) := by decide +kernel
theorem dX3_mostOfAll_15 : decode cX3_mostOfAll 15 = .ok (.aload_n 0, 1) := by decide +kernel
theorem dX3_mostOfAll_16 : decode cX3_mostOfAll 16 = .ok (.getfield 26, 3) := by decide +kernel
theorem dX3_mostOfAll_19 : decode cX3_mostOfAll 19 = .ok (.iload_n 1, 1) := by decide +kernel
theorem dX3_mostOfAll_20 : decode cX3_mostOfAll 20 = .ok (.iconst (-1), 1) := by decide +kernel
theorem dX3_mostOfAll_21 : decode cX3_mostOfAll 21 = .ok (.invokevirtual 56, 3) := by decide +kernel
theorem dX3_mostOfAll_24 : decode cX3_mostOfAll 24 = .ok (.aload_n 0, 1) := by decide +kernel
theorem dX3_mostOfAll_25 : decode cX3_mostOfAll 25 = .ok (.iload_n 1, 1) := by decide +kernel
theorem dX3_mostOfAll_26 : decode cX3_mostOfAll 26 = .ok (.iconst 1, 1) := by decide +kernel
theorem dX3_mostOfAll_27 : decode cX3_mostOfAll 27 = .ok (.iadd, 1) := by decide +kernel
theorem dX3_mostOfAll_28 : decode cX3_mostOfAll 28 = .ok (.iload_n 2, 1) := by decide +kernel
theorem dX3_mostOfAll_29 : decode cX3_mostOfAll 29 = .ok (.iload_n 3, 1) := by decide +kernel
theorem dX3_mostOfAll_30 : decode cX3_mostOfAll 30 = .ok (.invokestatic 99, 3) := by decide +kernel
theorem dX3_mostOfAll_33 : decode cX3_mostOfAll 33 = .ok (.istore 4, 2) := by decide +kernel
theorem dX3_mostOfAll_35 : decode cX3_mostOfAll 35 = .ok (.iconst 0, 1) := by decide +kernel
theorem dX3_mostOfAll_36 : decode cX3_mostOfAll 36 = .ok (.istore 5, 2) := by decide +kernel
theorem dX3_mostOfAll_38 : decode cX3_mostOfAll 38 = .ok (.iload 5, 2) := by decide +kernel
theorem dX3_mostOfAll_40 : decode cX3_mostOfAll 40 = .ok (.aload_n 0, 1) := by decide +kernel
theorem dX3_mostOfAll_41 : decode cX3_mostOfAll 41 = .ok (.getfield 41, 3) := by decide +kernel
theorem dX3_mostOfAll_44 : decode cX3_mostOfAll 44 = .ok (.if_icmp .ge 71, 3) := by decide +kernel
theorem dX3_mostOfAll_47 : decode cX3_mostOfAll 47 = .ok (.aload_n 0, 1) := by decide +kernel
theorem dX3_mostOfAll_48 : decode cX3_mostOfAll 48 = .ok (.iload_n 1, 1) := by decide +kernel
theorem dX3_mostOfAll_49 : decode cX3_mostOfAll 49 = .ok (.iload 5, 2) := by decide +kernel
theorem dX3_mostOfAll_51 : decode cX3_mostOfAll 51 = .ok (.invokevirtual 70, 3) := by decide +kernel
theorem dX3_mostOfAll_54 : decode cX3_mostOfAll 54 = .ok (.ifCond .eq 55, 3) := by decide +kernel
theorem dX3_mostOfAll_57 : decode cX3_mostOfAll 57 = .ok (.iload_n 2, 1) := by decide +kernel
theorem dX3_mostOfAll_58 : decode cX3_mostOfAll 58 = .ok (.iload 5, 2) := by decide +kernel
theorem dX3_mostOfAll_60 : decode cX3_mostOfAll 60 = .ok (.ishr, 1) := by decide +kernel
theorem dX3_mostOfAll_61 : decode cX3_mostOfAll 61 = .ok (.iconst 1, 1) := by decide +kernel
theorem dX3_mostOfAll_62 : decode cX3_mostOfAll 62 = .ok (.iand, 1) := by decide +kernel
theorem dX3_mostOfAll_63 : decode cX3_mostOfAll 63 = .ok (.ifCond .ne 46, 3) := by decide +kernel
theorem dX3_mostOfAll_66 : decode cX3_mostOfAll 66 = .ok (.aload_n 0, 1) := by decide +kernel
theorem dX3_mostOfAll_67 : decode cX3_mostOfAll 67 = .ok (.getfield 26, 3) := by decide +kernel
theorem dX3_mostOfAll_70 : decode cX3_mostOfAll 70 = .ok (.iload_n 1, 1) := by decide +kernel
theorem dX3_mostOfAll_71 : decode cX3_mostOfAll 71 = .ok (.iload 5, 2) := by decide +kernel
theorem dX3_mostOfAll_73 : decode cX3_mostOfAll 73 = .ok (.invokevirtual 56, 3) := by decide +kernel
theorem dX3_mostOfAll_76 : decode cX3_mostOfAll 76 = .ok (.iload_n 3, 1) := by decide +kernel
theorem dX3_mostOfAll_77 : decode cX3_mostOfAll 77 = .ok (.aload_n 0, 1) := by decide +kernel
theorem dX3_mostOfAll_78 : decode cX3_mostOfAll 78 = .ok (.iload_n 1, 1) := by decide +kernel
theorem dX3_mostOfAll_79 : decode cX3_mostOfAll 79 = .ok (.iload 5, 2) := by decide +kernel
theorem dX3_mostOfAll_81 : decode cX3_mostOfAll 81 = .ok (.invokevirtual 96, 3) := by decide +kernel
theorem dX3_mostOfAll_84 : decode cX3_mostOfAll 84 = .ok (.iadd, 1) := by decide +kernel
theorem dX3_mostOfAll_85 : decode cX3_mostOfAll 85 = .ok (.istore 6, 2) := by decide +kernel
theorem dX3_mostOfAll_87 : decode cX3_mostOfAll 87 = .ok (.iload 4, 2) := by decide +kernel
theorem dX3_mostOfAll_89 : decode cX3_mostOfAll 89 = .ok (.aload_n 0, 1) := by decide +kernel
theorem dX3_mostOfAll_90 : decode cX3_mostOfAll 90 = .ok (.iload_n 1, 1) := by decide +kernel
theorem dX3_mostOfAll_91 : decode cX3_mostOfAll 91 = .ok (.iconst 1, 1) := by decide +kernel
theorem dX3_mostOfAll_92 : decode cX3_mostOfAll 92 = .ok (.iadd, 1) := by decide +kernel
theorem dX3_mostOfAll_93 : decode cX3_mostOfAll 93 = .ok (.iload_n 2, 1) := by decide +kernel
theorem dX3_mostOfAll_94 : decode cX3_mostOfAll 94 = .ok (.iconst 1, 1) := by decide +kernel
theorem dX3_mostOfAll_95 : decode cX3_mostOfAll 95 = .ok (.iload 5, 2) := by decide +kernel
theorem dX3_mostOfAll_97 : decode cX3_mostOfAll 97 = .ok (.ishl, 1) := by decide +kernel
theorem dX3_mostOfAll_98 : decode cX3_mostOfAll 98 = .ok (.ior, 1) := by decide +kernel
theorem dX3_mostOfAll_99 : decode cX3_mostOfAll 99 = .ok (.iload 6, 2) := by decide +kernel
theorem dX3_mostOfAll_101 : decode cX3_mostOfAll 101 = .ok (.invokestatic 99, 3) := by decide +kernel
theorem dX3_mostOfAll_104 : decode cX3_mostOfAll 104 = .ok (.invokestatic 80, 3) := by decide +kernel
theorem dX3_mostOfAll_107 : decode cX3_mostOfAll 107 = .ok (.istore 4, 2) := by decide +kernel
theorem dX3_mostOfAll_109 : decode cX3_mostOfAll 109 = .ok (.iinc 5 1, 3) := by decide +kernel
theorem dX3_mostOfAll_112 : decode cX3_mostOfAll 112 = .ok (.goto (-74), 3) := by decide +kernel
theorem dX3_mostOfAll_115 : decode cX3_mostOfAll 115 = .ok (.iload 4, 2) := by decide +kernel
theorem dX3_mostOfAll_117 : decode cX3_mostOfAll 117 = .ok (.ireturn, 1) := by decide +kernel
set_option maxRecDepth 20000 in
theorem ggX3_pointsWithEarlier_X4_get : GoodIn wsX3_pointsWithEarlier wsX4_get := goodIn_r _ [7, 8, 21] (by decide +kernel) (by decide +kernel)
set_option maxRecDepth 20000 in
theorem gX3_pointsWithEarlier_X4_get : GoodIn wsX3_pointsWithEarlier (wsV RX3 47 RX4 yX4_get wsX4_get) := goodIn_app (goodIn_of _ (by decide +kernel)) ggX3_pointsWithEarlier_X4_get
set_option maxRecDepth 20000 in
theorem ggX3_pointsWithEarlier_X3_place : GoodIn wsX3_pointsWithEarlier wsX3_place := goodIn_r _ [12] (by decide +kernel) (by decide +kernel)
set_option maxRecDepth 20000 in
theorem gX3_pointsWithEarlier_X3_place : GoodIn wsX3_pointsWithEarlier (va_wsS RX3 77 yX3_place wsX3_place) := goodIn_app (goodIn_of _ (by decide +kernel)) ggX3_pointsWithEarlier_X3_place
theorem dX3_pointsWithEarlier_0 : decode cX3_pointsWithEarlier 0 = .ok (.iconst 0, 1) := by decide +kernel
theorem dX3_pointsWithEarlier_1 : decode cX3_pointsWithEarlier 1 = .ok (.istore_n 3, 1) := by decide +kernel
theorem dX3_pointsWithEarlier_2 : decode cX3_pointsWithEarlier 2 = .ok (.iconst 0, 1) := by decide +kernel
theorem dX3_pointsWithEarlier_3 : decode cX3_pointsWithEarlier 3 = .ok (.istore 4, 2) := by decide +kernel
theorem dX3_pointsWithEarlier_5 : decode cX3_pointsWithEarlier 5 = .ok (.iload 4, 2) := by decide +kernel
theorem dX3_pointsWithEarlier_7 : decode cX3_pointsWithEarlier 7 = .ok (.iload_n 1, 1) := by decide +kernel
theorem dX3_pointsWithEarlier_8 : decode cX3_pointsWithEarlier 8 = .ok (.if_icmp .ge 45, 3) := by decide +kernel
theorem dX3_pointsWithEarlier_11 : decode cX3_pointsWithEarlier 11 = .ok (.aload_n 0, 1) := by decide +kernel
theorem dX3_pointsWithEarlier_12 : decode cX3_pointsWithEarlier 12 = .ok (.getfield 26, 3) := by decide +kernel
theorem dX3_pointsWithEarlier_15 : decode cX3_pointsWithEarlier 15 = .ok (.iload 4, 2) := by decide +kernel
theorem dX3_pointsWithEarlier_17 : decode cX3_pointsWithEarlier 17 = .ok (.invokevirtual 47, 3) := by decide +kernel
theorem dX3_pointsWithEarlier_20 : decode cX3_pointsWithEarlier 20 = .ok (.istore 5, 2) := by decide +kernel
theorem dX3_pointsWithEarlier_22 : decode cX3_pointsWithEarlier 22 = .ok (.iload 5, 2) := by decide +kernel
theorem dX3_pointsWithEarlier_24 : decode cX3_pointsWithEarlier 24 = .ok (.iconst (-1), 1) := by decide +kernel
theorem dX3_pointsWithEarlier_25 : decode cX3_pointsWithEarlier 25 = .ok (.if_icmp .eq 22, 3) := by decide +kernel
theorem dX3_pointsWithEarlier_28 : decode cX3_pointsWithEarlier 28 = .ok (.iload_n 3, 1) := by decide +kernel
theorem dX3_pointsWithEarlier_29 : decode cX3_pointsWithEarlier 29 = .ok (.aload_n 0, 1) := by decide +kernel
theorem dX3_pointsWithEarlier_30 : decode cX3_pointsWithEarlier 30 = .ok (.getfield 20, 3) := by decide +kernel
theorem dX3_pointsWithEarlier_33 : decode cX3_pointsWithEarlier 33 = .ok (.iload 4, 2) := by decide +kernel
theorem dX3_pointsWithEarlier_35 : decode cX3_pointsWithEarlier 35 = .ok (.iload_n 1, 1) := by decide +kernel
theorem dX3_pointsWithEarlier_36 : decode cX3_pointsWithEarlier 36 = .ok (.iload 5, 2) := by decide +kernel
theorem dX3_pointsWithEarlier_38 : decode cX3_pointsWithEarlier 38 = .ok (.iload_n 2, 1) := by decide +kernel
theorem dX3_pointsWithEarlier_39 : decode cX3_pointsWithEarlier 39 = .ok (.invokestatic 77, 3) := by decide +kernel
theorem dX3_pointsWithEarlier_42 : decode cX3_pointsWithEarlier 42 = .ok (.invokevirtual 47, 3) := by decide +kernel
theorem dX3_pointsWithEarlier_45 : decode cX3_pointsWithEarlier 45 = .ok (.iadd, 1) := by decide +kernel
theorem dX3_pointsWithEarlier_46 : decode cX3_pointsWithEarlier 46 = .ok (.istore_n 3, 1) := by decide +kernel
theorem dX3_pointsWithEarlier_47 : decode cX3_pointsWithEarlier 47 = .ok (.iinc 4 1, 3) := by decide +kernel
theorem dX3_pointsWithEarlier_50 : decode cX3_pointsWithEarlier 50 = .ok (.goto (-45), 3) := by decide +kernel
theorem dX3_pointsWithEarlier_53 : decode cX3_pointsWithEarlier 53 = .ok (.iload_n 3, 1) := by decide +kernel
theorem dX3_pointsWithEarlier_54 : decode cX3_pointsWithEarlier 54 = .ok (.ireturn, 1) := by decide +kernel
theorem dX4_init_0 : decode cX4_init 0 = .ok (.aload_n 0, 1) := by decide +kernel
theorem dX4_init_1 : decode cX4_init 1 = .ok (.invokespecial 1, 3) := by decide +kernel
theorem dX4_init_4 : decode cX4_init 4 = .ok (.aload_n 0, 1) := by decide +kernel
theorem dX4_init_5 : decode cX4_init 5 = .ok (.iconst 0, 1) := by decide +kernel
theorem dX4_init_6 : decode cX4_init 6 = .ok (.iload_n 1, 1) := by decide +kernel
theorem dX4_init_7 : decode cX4_init 7 = .ok (.invokestatic 7, 3) := by decide +kernel
theorem dX4_init_10 : decode cX4_init 10 = .ok (.newarray .int, 2) := by decide +kernel
theorem dX4_init_12 : decode cX4_init 12 = .ok (.putfield 13, 3) := by decide +kernel
theorem dX4_init_15 : decode cX4_init 15 = .ok (.return_, 1) := by decide +kernel
theorem dX4_get_0 : decode cX4_get 0 = .ok (.iload_n 1, 1) := by decide +kernel
theorem dX4_get_1 : decode cX4_get 1 = .ok (.ifCond .lt 21, 3) := by decide +kernel
theorem dX4_get_4 : decode cX4_get 4 = .ok (.iload_n 1, 1) := by decide +kernel
theorem dX4_get_5 : decode cX4_get 5 = .ok (.aload_n 0, 1) := by decide +kernel
theorem dX4_get_6 : decode cX4_get 6 = .ok (.getfield 13, 3) := by decide +kernel
theorem dX4_get_9 : decode cX4_get 9 = .ok (.arraylength, 1) := by decide +kernel
theorem dX4_get_10 : decode cX4_get 10 = .ok (.if_icmp .ge 12, 3) := by decide +kernel
theorem dX4_get_13 : decode cX4_get 13 = .ok (.aload_n 0, 1) := by decide +kernel
theorem dX4_get_14 : decode cX4_get 14 = .ok (.getfield 13, 3) := by decide +kernel
theorem dX4_get_17 : decode cX4_get 17 = .ok (.iload_n 1, 1) := by decide +kernel
theorem dX4_get_18 : decode cX4_get 18 = .ok (.iaload, 1) := by decide +kernel
theorem dX4_get_19 : decode cX4_get 19 = .ok (.goto 4, 3) := by decide +kernel
theorem dX4_get_22 : decode cX4_get 22 = .ok (.iconst 0, 1) := by decide +kernel
theorem dX4_get_23 : decode cX4_get 23 = .ok (.ireturn, 1) := by decide +kernel
theorem dX4_set_0 : decode cX4_set 0 = .ok (.iload_n 1, 1) := by decide +kernel
theorem dX4_set_1 : decode cX4_set 1 = .ok (.ifCond .lt 19, 3) := by decide +kernel
theorem dX4_set_4 : decode cX4_set 4 = .ok (.iload_n 1, 1) := by decide +kernel
theorem dX4_set_5 : decode cX4_set 5 = .ok (.aload_n 0, 1) := by decide +kernel
theorem dX4_set_6 : decode cX4_set 6 = .ok (.getfield 13, 3) := by decide +kernel
theorem dX4_set_9 : decode cX4_set 9 = .ok (.arraylength, 1) := by decide +kernel
theorem dX4_set_10 : decode cX4_set 10 = .ok (.if_icmp .ge 10, 3) := by decide +kernel
theorem dX4_set_13 : decode cX4_set 13 = .ok (.aload_n 0, 1) := by decide +kernel
theorem dX4_set_14 : decode cX4_set 14 = .ok (.getfield 13, 3) := by decide +kernel
theorem dX4_set_17 : decode cX4_set 17 = .ok (.iload_n 1, 1) := by decide +kernel
theorem dX4_set_18 : decode cX4_set 18 = .ok (.iload_n 2, 1) := by decide +kernel
theorem dX4_set_19 : decode cX4_set 19 = .ok (.iastore, 1) := by decide +kernel
theorem dX4_set_20 : decode cX4_set 20 = .ok (.return_, 1) := by decide +kernel
theorem dX4_fill_0 : decode cX4_fill 0 = .ok (.iconst 0, 1) := by decide +kernel
theorem dX4_fill_1 : decode cX4_fill 1 = .ok (.istore_n 2, 1) := by decide +kernel
theorem dX4_fill_2 : decode cX4_fill 2 = .ok (.iload_n 2, 1) := by decide +kernel
theorem dX4_fill_3 : decode cX4_fill 3 = .ok (.aload_n 0, 1) := by decide +kernel
theorem dX4_fill_4 : decode cX4_fill 4 = .ok (.getfield 13, 3) := by decide +kernel
theorem dX4_fill_7 : decode cX4_fill 7 = .ok (.arraylength, 1) := by decide +kernel
theorem dX4_fill_8 : decode cX4_fill 8 = .ok (.if_icmp .ge 16, 3) := by decide +kernel
theorem dX4_fill_11 : decode cX4_fill 11 = .ok (.aload_n 0, 1) := by decide +kernel
theorem dX4_fill_12 : decode cX4_fill 12 = .ok (.getfield 13, 3) := by decide +kernel
theorem dX4_fill_15 : decode cX4_fill 15 = .ok (.iload_n 2, 1) := by decide +kernel
theorem dX4_fill_16 : decode cX4_fill 16 = .ok (.iload_n 1, 1) := by decide +kernel
theorem dX4_fill_17 : decode cX4_fill 17 = .ok (.iastore, 1) := by decide +kernel
theorem dX4_fill_18 : decode cX4_fill 18 = .ok (.iinc 2 1, 3) := by decide +kernel
theorem dX4_fill_21 : decode cX4_fill 21 = .ok (.goto (-19), 3) := by decide +kernel
theorem dX4_fill_24 : decode cX4_fill 24 = .ok (.return_, 1) := by decide +kernel
set_option maxRecDepth 20000 in
theorem ggX4_become_X4_get : GoodIn wsX4_become wsX4_get := goodIn_r _ [6, 1, 7] (by decide +kernel) (by decide +kernel)
set_option maxRecDepth 20000 in
theorem gX4_become_X4_get : GoodIn wsX4_become (wsV RX4 19 RX4 yX4_get wsX4_get) := goodIn_app (goodIn_of _ (by decide +kernel)) ggX4_become_X4_get
theorem dX4_become_0 : decode cX4_become 0 = .ok (.iconst 0, 1) := by decide +kernel
theorem dX4_become_1 : decode cX4_become 1 = .ok (.istore_n 2, 1) := by decide +kernel
theorem dX4_become_2 : decode cX4_become 2 = .ok (.iload_n 2, 1) := by decide +kernel
theorem dX4_become_3 : decode cX4_become 3 = .ok (.aload_n 0, 1) := by decide +kernel
theorem dX4_become_4 : decode cX4_become 4 = .ok (.getfield 13, 3) := by decide +kernel
theorem dX4_become_7 : decode cX4_become 7 = .ok (.arraylength, 1) := by decide +kernel
theorem dX4_become_8 : decode cX4_become 8 = .ok (.if_icmp .ge 20, 3) := by decide +kernel
theorem dX4_become_11 : decode cX4_become 11 = .ok (.aload_n 0, 1) := by decide +kernel
theorem dX4_become_12 : decode cX4_become 12 = .ok (.getfield 13, 3) := by decide +kernel
theorem dX4_become_15 : decode cX4_become 15 = .ok (.iload_n 2, 1) := by decide +kernel
theorem dX4_become_16 : decode cX4_become 16 = .ok (.aload_n 1, 1) := by decide +kernel
theorem dX4_become_17 : decode cX4_become 17 = .ok (.iload_n 2, 1) := by decide +kernel
theorem dX4_become_18 : decode cX4_become 18 = .ok (.invokevirtual 19, 3) := by decide +kernel
theorem dX4_become_21 : decode cX4_become 21 = .ok (.iastore, 1) := by decide +kernel
theorem dX4_become_22 : decode cX4_become 22 = .ok (.iinc 2 1, 3) := by decide +kernel
theorem dX4_become_25 : decode cX4_become 25 = .ok (.goto (-23), 3) := by decide +kernel
theorem dX4_become_28 : decode cX4_become 28 = .ok (.return_, 1) := by decide +kernel
set_option maxRecDepth 20000 in
theorem ggX5_init_X4_init : GoodIn wsX5_init wsX4_init := goodIn_r _ [10, 11, 2, 3, 12, 13, 14, 15, 16, 17, 22] (by decide +kernel) (by decide +kernel)
set_option maxRecDepth 20000 in
theorem gX5_init_X4_init : GoodIn wsX5_init (wsX4_init) := ggX5_init_X4_init
set_option maxRecDepth 20000 in
theorem ggX5_init_X4_set : GoodIn wsX5_init wsX4_set := goodIn_r _ [21, 17, 22] (by decide +kernel) (by decide +kernel)
set_option maxRecDepth 20000 in
theorem gX5_init_X4_set : GoodIn wsX5_init (wsV RX5 20 RX4 yX4_set wsX4_set) := goodIn_app (goodIn_of _ (by decide +kernel)) ggX5_init_X4_set
theorem dX5_init_0 : decode cX5_init 0 = .ok (.aload_n 0, 1) := by decide +kernel
theorem dX5_init_1 : decode cX5_init 1 = .ok (.invokespecial 3, 3) := by decide +kernel
theorem dX5_init_4 : decode cX5_init 4 = .ok (.aload_n 0, 1) := by decide +kernel
theorem dX5_init_5 : decode cX5_init 5 = .ok (.new 9, 3) := by decide +kernel
theorem dX5_init_8 : decode cX5_init 8 = .ok (.dup, 1) := by decide +kernel
theorem dX5_init_9 : decode cX5_init 9 = .ok (.bipush 32, 2) := by decide +kernel
theorem dX5_init_11 : decode cX5_init 11 = .ok (.invokespecial 11, 3) := by decide +kernel
theorem dX5_init_14 : decode cX5_init 14 = .ok (.putfield 14, 3) := by decide +kernel
theorem dX5_init_17 : decode cX5_init 17 = .ok (.iconst 0, 1) := by decide +kernel
theorem dX5_init_18 : decode cX5_init 18 = .ok (.istore_n 1, 1) := by decide +kernel
theorem dX5_init_19 : decode cX5_init 19 = .ok (.iload_n 1, 1) := by decide +kernel
theorem dX5_init_20 : decode cX5_init 20 = .ok (.bipush 32, 2) := by decide +kernel
theorem dX5_init_22 : decode cX5_init 22 = .ok (.if_icmp .ge 18, 3) := by decide +kernel
theorem dX5_init_25 : decode cX5_init 25 = .ok (.aload_n 0, 1) := by decide +kernel
theorem dX5_init_26 : decode cX5_init 26 = .ok (.getfield 14, 3) := by decide +kernel
theorem dX5_init_29 : decode cX5_init 29 = .ok (.iload_n 1, 1) := by decide +kernel
theorem dX5_init_30 : decode cX5_init 30 = .ok (.iload_n 1, 1) := by decide +kernel
theorem dX5_init_31 : decode cX5_init 31 = .ok (.invokevirtual 20, 3) := by decide +kernel
theorem dX5_init_34 : decode cX5_init 34 = .ok (.iinc 1 1, 3) := by decide +kernel
theorem dX5_init_37 : decode cX5_init 37 = .ok (.goto (-18), 3) := by decide +kernel
theorem dX5_init_40 : decode cX5_init 40 = .ok (.return_, 1) := by decide +kernel
set_option maxRecDepth 20000 in
theorem ggX5_alike_X4_get : GoodIn wsX5_alike wsX4_get := goodIn_r _ [6, 7, 9] (by decide +kernel) (by decide +kernel)
set_option maxRecDepth 20000 in
theorem gX5_alike_X4_get : GoodIn wsX5_alike (wsV RX5 24 RX4 yX4_get wsX4_get) := goodIn_app (goodIn_of _ (by decide +kernel)) ggX5_alike_X4_get
theorem dX5_alike_0 : decode cX5_alike 0 = .ok (.aload_n 0, 1) := by decide +kernel
theorem dX5_alike_1 : decode cX5_alike 1 = .ok (.getfield 14, 3) := by decide +kernel
theorem dX5_alike_4 : decode cX5_alike 4 = .ok (.iload_n 1, 1) := by decide +kernel
theorem dX5_alike_5 : decode cX5_alike 5 = .ok (.invokevirtual 24, 3) := by decide +kernel
theorem dX5_alike_8 : decode cX5_alike 8 = .ok (.aload_n 0, 1) := by decide +kernel
theorem dX5_alike_9 : decode cX5_alike 9 = .ok (.getfield 14, 3) := by decide +kernel
theorem dX5_alike_12 : decode cX5_alike 12 = .ok (.iload_n 2, 1) := by decide +kernel
theorem dX5_alike_13 : decode cX5_alike 13 = .ok (.invokevirtual 24, 3) := by decide +kernel
theorem dX5_alike_16 : decode cX5_alike 16 = .ok (.if_icmp .ne 7, 3) := by decide +kernel
theorem dX5_alike_19 : decode cX5_alike 19 = .ok (.iconst 1, 1) := by decide +kernel
theorem dX5_alike_20 : decode cX5_alike 20 = .ok (.goto 4, 3) := by decide +kernel
theorem dX5_alike_23 : decode cX5_alike 23 = .ok (.iconst 0, 1) := by decide +kernel
theorem dX5_alike_24 : decode cX5_alike 24 = .ok (.ireturn, 1) := by decide +kernel
set_option maxRecDepth 20000 in
theorem ggX5_join_X4_get : GoodIn wsX5_join wsX4_get := goodIn_r _ [6, 7, 13] (by decide +kernel) (by decide +kernel)
set_option maxRecDepth 20000 in
theorem gX5_join_X4_get : GoodIn wsX5_join (wsV RX5 24 RX4 yX4_get wsX4_get) := goodIn_app (goodIn_of _ (by decide +kernel)) ggX5_join_X4_get
set_option maxRecDepth 20000 in
theorem ggX5_join_X4_set : GoodIn wsX5_join wsX4_set := goodIn_r _ [11, 7, 13] (by decide +kernel) (by decide +kernel)
set_option maxRecDepth 20000 in
theorem gX5_join_X4_set : GoodIn wsX5_join (wsV RX5 20 RX4 yX4_set wsX4_set) := goodIn_app (goodIn_of _ (by decide +kernel)) ggX5_join_X4_set
theorem dX5_join_0 : decode cX5_join 0 = .ok (.aload_n 0, 1) := by decide +kernel
theorem dX5_join_1 : decode cX5_join 1 = .ok (.getfield 14, 3) := by decide +kernel
theorem dX5_join_4 : decode cX5_join 4 = .ok (.iload_n 1, 1) := by decide +kernel
theorem dX5_join_5 : decode cX5_join 5 = .ok (.invokevirtual 24, 3) := by decide +kernel
theorem dX5_join_8 : decode cX5_join 8 = .ok (.istore_n 3, 1) := by decide +kernel
theorem dX5_join_9 : decode cX5_join 9 = .ok (.aload_n 0, 1) := by decide +kernel
theorem dX5_join_10 : decode cX5_join 10 = .ok (.getfield 14, 3) := by decide +kernel
theorem dX5_join_13 : decode cX5_join 13 = .ok (.iload_n 2, 1) := by decide +kernel
theorem dX5_join_14 : decode cX5_join 14 = .ok (.invokevirtual 24, 3) := by decide +kernel
theorem dX5_join_17 : decode cX5_join 17 = .ok (.istore 4, 2) := by decide +kernel
theorem dX5_join_19 : decode cX5_join 19 = .ok (.iconst 0, 1) := by decide +kernel
theorem dX5_join_20 : decode cX5_join 20 = .ok (.istore 5, 2) := by decide +kernel
theorem dX5_join_22 : decode cX5_join 22 = .ok (.iload 5, 2) := by decide +kernel
theorem dX5_join_24 : decode cX5_join 24 = .ok (.bipush 32, 2) := by decide +kernel
theorem dX5_join_26 : decode cX5_join 26 = .ok (.if_icmp .ge 33, 3) := by decide +kernel
theorem dX5_join_29 : decode cX5_join 29 = .ok (.aload_n 0, 1) := by decide +kernel
theorem dX5_join_30 : decode cX5_join 30 = .ok (.getfield 14, 3) := by decide +kernel
theorem dX5_join_33 : decode cX5_join 33 = .ok (.iload 5, 2) := by decide +kernel
theorem dX5_join_35 : decode cX5_join 35 = .ok (.invokevirtual 24, 3) := by decide +kernel
theorem dX5_join_38 : decode cX5_join 38 = .ok (.iload 4, 2) := by decide +kernel
theorem dX5_join_40 : decode cX5_join 40 = .ok (.if_icmp .ne 13, 3) := by decide +kernel
theorem dX5_join_43 : decode cX5_join 43 = .ok (.aload_n 0, 1) := by decide +kernel
theorem dX5_join_44 : decode cX5_join 44 = .ok (.getfield 14, 3) := by decide +kernel
theorem dX5_join_47 : decode cX5_join 47 = .ok (.iload 5, 2) := by decide +kernel
theorem dX5_join_49 : decode cX5_join 49 = .ok (.iload_n 3, 1) := by decide +kernel
theorem dX5_join_50 : decode cX5_join 50 = .ok (.invokevirtual 20, 3) := by decide +kernel
theorem dX5_join_53 : decode cX5_join 53 = .ok (.iinc 5 1, 3) := by decide +kernel
theorem dX5_join_56 : decode cX5_join 56 = .ok (.goto (-34), 3) := by decide +kernel
theorem dX5_join_59 : decode cX5_join 59 = .ok (.return_, 1) := by decide +kernel
set_option maxRecDepth 20000 in
theorem ggX6_init_X1_init : GoodIn wsX6_init wsX1_init := goodIn_r _ [30, 31, 2, 3, 32, 33, 34, 35, 36, 18, 19, 37, 38, 39, 40, 41, 42, 43, 44, 45, 46, 47, 48, 49, 50, 51, 52, 53, 110, 86, 87, 88, 101] (by decide +kernel) (by decide +kernel)
set_option maxRecDepth 20000 in
theorem gX6_init_X1_init_n11 : GoodIn wsX6_init (wsX1_init) := ggX6_init_X1_init
set_option maxRecDepth 20000 in
theorem ggX6_init_X5_init : GoodIn wsX6_init wsX5_init := goodIn_r _ [56, 57, 2, 3, 58, 33, 34, 59, 60, 39, 40, 41, 42, 43, 44, 45, 46, 47, 61, 62, 63, 64, 110, 99] (by decide +kernel) (by decide +kernel)
set_option maxRecDepth 20000 in
theorem gX6_init_X5_init : GoodIn wsX6_init (wsX5_init) := ggX6_init_X5_init
set_option maxRecDepth 20000 in
theorem ggX6_init_X0_init : GoodIn wsX6_init wsX0_init := goodIn_r _ [67, 68, 2, 3, 69, 33, 34, 70, 71, 39, 40, 41, 42, 43, 44, 45, 46, 47, 72, 73, 74, 75, 110, 100] (by decide +kernel) (by decide +kernel)
set_option maxRecDepth 20000 in
theorem gX6_init_X0_init : GoodIn wsX6_init (wsX0_init) := ggX6_init_X0_init
set_option maxRecDepth 20000 in
theorem ggX6_init_X2_init : GoodIn wsX6_init wsX2_init := goodIn_r _ [49, 50, 2, 3, 51, 33, 34, 52, 53, 39, 40, 41, 42, 43, 44, 45, 46, 47, 110, 101] (by decide +kernel) (by decide +kernel)
set_option maxRecDepth 20000 in
theorem gX6_init_X2_init_n36 : GoodIn wsX6_init (wsX2_init) := ggX6_init_X2_init
set_option maxRecDepth 20000 in
theorem ggX6_init_X3_init : GoodIn wsX6_init wsX3_init := goodIn_r _ [77, 78, 2, 3, 79, 33, 34, 80, 81, 82, 83, 84, 85, 39, 40, 41, 42, 43, 44, 45, 46, 47, 110, 102, 103, 104, 105, 106, 107, 108, 109] (by decide +kernel) (by decide +kernel)
set_option maxRecDepth 20000 in
theorem gX6_init_X3_init_n49 : GoodIn wsX6_init (wsX3_init) := ggX6_init_X3_init
theorem dX6_init_0 : decode cX6_init 0 = .ok (.aload_n 0, 1) := by decide +kernel
theorem dX6_init_1 : decode cX6_init 1 = .ok (.invokespecial 3, 3) := by decide +kernel
theorem dX6_init_4 : decode cX6_init 4 = .ok (.aload_n 0, 1) := by decide +kernel
theorem dX6_init_5 : decode cX6_init 5 = .ok (.new 9, 3) := by decide +kernel
theorem dX6_init_8 : decode cX6_init 8 = .ok (.dup, 1) := by decide +kernel
theorem dX6_init_9 : decode cX6_init 9 = .ok (.invokespecial 11, 3) := by decide +kernel
theorem dX6_init_12 : decode cX6_init 12 = .ok (.putfield 12, 3) := by decide +kernel
theorem dX6_init_15 : decode cX6_init 15 = .ok (.aload_n 0, 1) := by decide +kernel
theorem dX6_init_16 : decode cX6_init 16 = .ok (.iconst 4, 1) := by decide +kernel
theorem dX6_init_17 : decode cX6_init 17 = .ok (.anewarray 9, 3) := by decide +kernel
theorem dX6_init_20 : decode cX6_init 20 = .ok (.putfield 16, 3) := by decide +kernel
theorem dX6_init_23 : decode cX6_init 23 = .ok (.aload_n 0, 1) := by decide +kernel
theorem dX6_init_24 : decode cX6_init 24 = .ok (.new 20, 3) := by decide +kernel
theorem dX6_init_27 : decode cX6_init 27 = .ok (.dup, 1) := by decide +kernel
theorem dX6_init_28 : decode cX6_init 28 = .ok (.invokespecial 22, 3) := by decide +kernel
theorem dX6_init_31 : decode cX6_init 31 = .ok (.putfield 23, 3) := by decide +kernel
theorem dX6_init_34 : decode cX6_init 34 = .ok (.aload_n 0, 1) := by decide +kernel
theorem dX6_init_35 : decode cX6_init 35 = .ok (.new 27, 3) := by decide +kernel
theorem dX6_init_38 : decode cX6_init 38 = .ok (.dup, 1) := by decide +kernel
theorem dX6_init_39 : decode cX6_init 39 = .ok (.invokespecial 29, 3) := by decide +kernel
theorem dX6_init_42 : decode cX6_init 42 = .ok (.putfield 30, 3) := by decide +kernel
theorem dX6_init_45 : decode cX6_init 45 = .ok (.aload_n 0, 1) := by decide +kernel
theorem dX6_init_46 : decode cX6_init 46 = .ok (.new 34, 3) := by decide +kernel
theorem dX6_init_49 : decode cX6_init 49 = .ok (.dup, 1) := by decide +kernel
theorem dX6_init_50 : decode cX6_init 50 = .ok (.invokespecial 36, 3) := by decide +kernel
theorem dX6_init_53 : decode cX6_init 53 = .ok (.putfield 37, 3) := by decide +kernel
theorem dX6_init_56 : decode cX6_init 56 = .ok (.aload_n 0, 1) := by decide +kernel
theorem dX6_init_57 : decode cX6_init 57 = .ok (.new 34, 3) := by decide +kernel
theorem dX6_init_60 : decode cX6_init 60 = .ok (.dup, 1) := by decide +kernel
theorem dX6_init_61 : decode cX6_init 61 = .ok (.invokespecial 36, 3) := by decide +kernel
theorem dX6_init_64 : decode cX6_init 64 = .ok (.putfield 41, 3) := by decide +kernel
theorem dX6_init_67 : decode cX6_init 67 = .ok (.aload_n 0, 1) := by decide +kernel
theorem dX6_init_68 : decode cX6_init 68 = .ok (.new 34, 3) := by decide +kernel
theorem dX6_init_71 : decode cX6_init 71 = .ok (.dup, 1) := by decide +kernel
theorem dX6_init_72 : decode cX6_init 72 = .ok (.invokespecial 36, 3) := by decide +kernel
theorem dX6_init_75 : decode cX6_init 75 = .ok (.putfield 44, 3) := by decide +kernel
theorem dX6_init_78 : decode cX6_init 78 = .ok (.aload_n 0, 1) := by decide +kernel
theorem dX6_init_79 : decode cX6_init 79 = .ok (.new 47, 3) := by decide +kernel
theorem dX6_init_82 : decode cX6_init 82 = .ok (.dup, 1) := by decide +kernel
theorem dX6_init_83 : decode cX6_init 83 = .ok (.invokespecial 49, 3) := by decide +kernel
theorem dX6_init_86 : decode cX6_init 86 = .ok (.putfield 50, 3) := by decide +kernel
theorem dX6_init_89 : decode cX6_init 89 = .ok (.aload_n 0, 1) := by decide +kernel
theorem dX6_init_90 : decode cX6_init 90 = .ok (.iconst (-1), 1) := by decide +kernel
theorem dX6_init_91 : decode cX6_init 91 = .ok (.putfield 54, 3) := by decide +kernel
theorem dX6_init_94 : decode cX6_init 94 = .ok (.aload_n 0, 1) := by decide +kernel
theorem dX6_init_95 : decode cX6_init 95 = .ok (.iconst 0, 1) := by decide +kernel
theorem dX6_init_96 : decode cX6_init 96 = .ok (.putfield 58, 3) := by decide +kernel
theorem dX6_init_99 : decode cX6_init 99 = .ok (.iconst 0, 1) := by decide +kernel
theorem dX6_init_100 : decode cX6_init 100 = .ok (.istore_n 1, 1) := by decide +kernel
theorem dX6_init_101 : decode cX6_init 101 = .ok (.iload_n 1, 1) := by decide +kernel
theorem dX6_init_102 : decode cX6_init 102 = .ok (.aload_n 0, 1) := by decide +kernel
theorem dX6_init_103 : decode cX6_init 103 = .ok (.getfield 16, 3) := by decide +kernel
theorem dX6_init_106 : decode cX6_init 106 = .ok (.arraylength, 1) := by decide +kernel
theorem dX6_init_107 : decode cX6_init 107 = .ok (.if_icmp .ge 33, 3) := by decide +kernel
theorem dX6_init_110 : decode cX6_init 110 = .ok (.aload_n 0, 1) := by decide +kernel
theorem dX6_init_111 : decode cX6_init 111 = .ok (.getfield 16, 3) := by decide +kernel
theorem dX6_init_114 : decode cX6_init 114 = .ok (.iload_n 1, 1) := by decide +kernel
theorem dX6_init_115 : decode cX6_init 115 = .ok (.iload_n 1, 1) := by decide +kernel
theorem dX6_init_116 : decode cX6_init 116 = .ok (.ifCond .ne 10, 3) := by decide +kernel
theorem dX6_init_119 : decode cX6_init 119 = .ok (.aload_n 0, 1) := by decide +kernel
theorem dX6_init_120 : decode cX6_init 120 = .ok (.getfield 12, 3) := by decide +kernel
theorem dX6_init_123 : decode cX6_init 123 = .ok (.goto 10, 3) := by decide +kernel
theorem dX6_init_126 : decode cX6_init 126 = .ok (.new 9, 3) := by decide +kernel
theorem dX6_init_129 : decode cX6_init 129 = .ok (.dup, 1) := by decide +kernel
theorem dX6_init_130 : decode cX6_init 130 = .ok (.invokespecial 11, 3) := by decide +kernel
theorem dX6_init_133 : decode cX6_init 133 = .ok (.aastore, 1) := by decide +kernel
theorem dX6_init_134 : decode cX6_init 134 = .ok (.iinc 1 1, 3) := by decide +kernel
theorem dX6_init_137 : decode cX6_init 137 = .ok (.goto (-36), 3) := by decide +kernel
theorem dX6_init_140 : decode cX6_init 140 = .ok (.return_, 1) := by decide +kernel
set_option maxRecDepth 20000 in
theorem ggX6_addIdea_X6_mapAt : GoodIn wsX6_addIdea wsX6_mapAt := goodIn_ca (goodIn_r _ [7, 8, 9, 10, 30, 31, 32, 33, 34, 35, 36, 37, 38, 39] (by decide +kernel) (by decide +kernel)) (goodIn_sub (fun _ h => List.mem_cons_of_mem _ (List.mem_append_right _ h)) (by decide +kernel))
set_option maxRecDepth 20000 in
theorem gX6_addIdea_X6_mapAt : GoodIn wsX6_addIdea (wsV RX6 61 RX6 yX6_mapAt wsX6_mapAt) := goodIn_app (goodIn_of _ (by decide +kernel)) ggX6_addIdea_X6_mapAt
set_option maxRecDepth 20000 in
theorem ggX6_addIdea_X6_requireWord : GoodIn wsX6_addIdea wsX6_requireWord := goodIn_ca (goodIn_r _ [13, 8, 9] (by decide +kernel) (by decide +kernel)) (goodIn_sub (fun _ h => List.mem_cons_of_mem _ (List.mem_append_right _ h)) (by decide +kernel))
set_option maxRecDepth 20000 in
theorem gX6_addIdea_X6_requireWord : GoodIn wsX6_addIdea (va_wsS RX6 65 yX6_requireWord wsX6_requireWord) := goodIn_app (goodIn_of _ (by decide +kernel)) ggX6_addIdea_X6_requireWord
set_option maxRecDepth 20000 in
theorem ggX6_addIdea_X1_add : GoodIn wsX6_addIdea wsX1_add := goodIn_r _ [18, 19, 20, 21, 22, 23, 24, 25, 26, 27, 28, 29, 40] (by decide +kernel) (by decide +kernel)
set_option maxRecDepth 20000 in
theorem gX6_addIdea_X1_add : GoodIn wsX6_addIdea (wsV RX6 79 RX1 yX1_add wsX1_add) := goodIn_app (goodIn_of _ (by decide +kernel)) ggX6_addIdea_X1_add
theorem dX6_addIdea_0 : decode cX6_addIdea 0 = .ok (.aload_n 0, 1) := by decide +kernel
theorem dX6_addIdea_1 : decode cX6_addIdea 1 = .ok (.iload_n 1, 1) := by decide +kernel
theorem dX6_addIdea_2 : decode cX6_addIdea 2 = .ok (.invokevirtual 61, 3) := by decide +kernel
theorem dX6_addIdea_5 : decode cX6_addIdea 5 = .ok (.astore_n 3, 1) := by decide +kernel
theorem dX6_addIdea_6 : decode cX6_addIdea 6 = .ok (.iload_n 2, 1) := by decide +kernel
theorem dX6_addIdea_7 : decode cX6_addIdea 7 = .ok (.invokestatic 65, 3) := by decide +kernel
theorem dX6_addIdea_10 : decode cX6_addIdea 10 = .ok (.aload_n 3, 1) := by decide +kernel
theorem dX6_addIdea_11 : decode cX6_addIdea 11 = .ok (.getfield 69, 3) := by decide +kernel
theorem dX6_addIdea_14 : decode cX6_addIdea 14 = .ok (.iconst 5, 1) := by decide +kernel
theorem dX6_addIdea_15 : decode cX6_addIdea 15 = .ok (.if_icmp .lt 13, 3) := by decide +kernel
theorem dX6_addIdea_18 : decode cX6_addIdea 18 = .ok (.new 72, 3) := by decide +kernel
theorem dX6_addIdea_21 : decode cX6_addIdea 21 = .ok (.dup, 1) := by decide +kernel
theorem dX6_addIdea_22 : decode cX6_addIdea 22 = .ok (.ldc 74, 2) := by decide +kernel
theorem dX6_addIdea_24 : decode cX6_addIdea 24 = .ok (.invokespecial 76, 3) := by decide +kernel
theorem dX6_addIdea_27 : decode cX6_addIdea 27 = .ok (.athrow, 1) := by decide +kernel
theorem dX6_addIdea_28 : decode cX6_addIdea 28 = .ok (.aload_n 3, 1) := by decide +kernel
theorem dX6_addIdea_29 : decode cX6_addIdea 29 = .ok (.iload_n 2, 1) := by decide +kernel
theorem dX6_addIdea_30 : decode cX6_addIdea 30 = .ok (.invokevirtual 79, 3) := by decide +kernel
theorem dX6_addIdea_33 : decode cX6_addIdea 33 = .ok (.ireturn, 1) := by decide +kernel
set_option maxRecDepth 20000 in
theorem ggX6_link_X6_mapAt : GoodIn wsX6_link wsX6_mapAt := goodIn_ca (goodIn_r _ [5, 6, 7, 8, 47, 48, 49, 50, 51, 52, 53, 54, 55, 56] (by decide +kernel) (by decide +kernel)) (goodIn_sub (fun _ h => List.mem_cons_of_mem _ (List.mem_append_left _ (List.mem_append_right _ h))) (by decide +kernel))
set_option maxRecDepth 20000 in
theorem gX6_link_X6_mapAt : GoodIn wsX6_link (wsV RX6 61 RX6 yX6_mapAt wsX6_mapAt) := goodIn_app (goodIn_of _ (by decide +kernel)) ggX6_link_X6_mapAt
set_option maxRecDepth 20000 in
theorem ggX6_link_X6_requireLink : GoodIn wsX6_link wsX6_requireLink := goodIn_ca (goodIn_ca (goodIn_r _ [11, 12, 13, 14, 15, 4, 16, 6, 7, 17, 18, 19, 44, 45, 46] (by decide +kernel) (by decide +kernel)) (goodIn_sub (fun _ h => List.mem_cons_of_mem _ (List.mem_append_right _ h)) (by decide +kernel))) (goodIn_sub (fun _ h => List.mem_cons_of_mem _ (List.mem_append_left _ (List.mem_append_right _ h))) (by decide +kernel))
set_option maxRecDepth 20000 in
theorem gX6_link_X6_requireLink : GoodIn wsX6_link (va_wsS RX6 83 yX6_requireLink wsX6_requireLink) := goodIn_app (goodIn_of _ (by decide +kernel)) ggX6_link_X6_requireLink
set_option maxRecDepth 20000 in
theorem ggX6_link_X2_toggle : GoodIn wsX6_link wsX2_toggle := goodIn_r _ [24, 25, 26, 27, 28, 23, 29, 30, 31, 32, 33, 34, 35, 36, 37, 38, 39, 40, 41, 42, 43, 57, 58] (by decide +kernel) (by decide +kernel)
set_option maxRecDepth 20000 in
theorem gX6_link_X2_toggle : GoodIn wsX6_link (wsV RX6 90 RX2 yX2_toggle wsX2_toggle) := goodIn_app (goodIn_of _ (by decide +kernel)) ggX6_link_X2_toggle
theorem dX6_link_0 : decode cX6_link 0 = .ok (.aload_n 0, 1) := by decide +kernel
theorem dX6_link_1 : decode cX6_link 1 = .ok (.iload_n 1, 1) := by decide +kernel
theorem dX6_link_2 : decode cX6_link 2 = .ok (.invokevirtual 61, 3) := by decide +kernel
theorem dX6_link_5 : decode cX6_link 5 = .ok (.astore 5, 2) := by decide +kernel
theorem dX6_link_7 : decode cX6_link 7 = .ok (.aload 5, 2) := by decide +kernel
theorem dX6_link_9 : decode cX6_link 9 = .ok (.iload_n 2, 1) := by decide +kernel
theorem dX6_link_10 : decode cX6_link 10 = .ok (.iload_n 3, 1) := by decide +kernel
theorem dX6_link_11 : decode cX6_link 11 = .ok (.iload 4, 2) := by decide +kernel
theorem dX6_link_13 : decode cX6_link 13 = .ok (.invokestatic 83, 3) := by decide +kernel
theorem dX6_link_16 : decode cX6_link 16 = .ok (.aload 5, 2) := by decide +kernel
theorem dX6_link_18 : decode cX6_link 18 = .ok (.getfield 87, 3) := by decide +kernel
theorem dX6_link_21 : decode cX6_link 21 = .ok (.iload_n 2, 1) := by decide +kernel
theorem dX6_link_22 : decode cX6_link 22 = .ok (.iload_n 3, 1) := by decide +kernel
theorem dX6_link_23 : decode cX6_link 23 = .ok (.iload 4, 2) := by decide +kernel
theorem dX6_link_25 : decode cX6_link 25 = .ok (.invokevirtual 90, 3) := by decide +kernel
theorem dX6_link_28 : decode cX6_link 28 = .ok (.ireturn, 1) := by decide +kernel
set_option maxRecDepth 20000 in
theorem ggX6_clear_X6_mapAt : GoodIn wsX6_clear wsX6_mapAt := goodIn_ca (goodIn_r _ [5, 6, 7, 8, 43, 44, 45, 46, 47, 48, 49, 50, 51, 52] (by decide +kernel) (by decide +kernel)) (goodIn_sub (fun _ h => List.mem_cons_of_mem _ (List.mem_append_right _ h)) (by decide +kernel))
set_option maxRecDepth 20000 in
theorem gX6_clear_X6_mapAt : GoodIn wsX6_clear (wsV RX6 61 RX6 yX6_mapAt wsX6_mapAt) := goodIn_app (goodIn_of _ (by decide +kernel)) ggX6_clear_X6_mapAt
set_option maxRecDepth 20000 in
theorem ggX6_clear_X1_removeAll : GoodIn wsX6_clear wsX1_removeAll := goodIn_r _ [13, 14, 15, 16, 17, 18, 19, 20, 21, 22, 23, 24, 25, 26, 27, 28, 29, 30, 31, 32, 33, 34, 35, 36, 37, 38, 39, 40, 41, 42, 53, 54, 55, 56, 57] (by decide +kernel) (by decide +kernel)
set_option maxRecDepth 20000 in
theorem gX6_clear_X1_removeAll : GoodIn wsX6_clear (wsV RX6 94 RX1 yX1_removeAll wsX1_removeAll) := goodIn_app (goodIn_of _ (by decide +kernel)) ggX6_clear_X1_removeAll
theorem dX6_clear_0 : decode cX6_clear 0 = .ok (.aload_n 0, 1) := by decide +kernel
theorem dX6_clear_1 : decode cX6_clear 1 = .ok (.iload_n 1, 1) := by decide +kernel
theorem dX6_clear_2 : decode cX6_clear 2 = .ok (.invokevirtual 61, 3) := by decide +kernel
theorem dX6_clear_5 : decode cX6_clear 5 = .ok (.invokevirtual 94, 3) := by decide +kernel
theorem dX6_clear_8 : decode cX6_clear 8 = .ok (.ireturn, 1) := by decide +kernel
set_option maxRecDepth 20000 in
theorem ggX6_synonyms_X6_requireWord : GoodIn wsX6_synonyms wsX6_requireWord := goodIn_ca (goodIn_r _ [5, 6, 7] (by decide +kernel) (by decide +kernel)) (goodIn_sub (fun _ h => List.mem_cons_of_mem _ (List.mem_append_right _ h)) (by decide +kernel))
set_option maxRecDepth 20000 in
theorem gX6_synonyms_X6_requireWord : GoodIn wsX6_synonyms (va_wsS RX6 65 yX6_requireWord wsX6_requireWord) := goodIn_app (goodIn_of _ (by decide +kernel)) ggX6_synonyms_X6_requireWord
set_option maxRecDepth 20000 in
theorem ggX6_synonyms_X5_alike : GoodIn wsX6_synonyms wsX5_alike := goodIn_r _ [12, 13, 14, 15, 16, 17, 18, 19, 38, 39] (by decide +kernel) (by decide +kernel)
set_option maxRecDepth 20000 in
theorem gX6_synonyms_X5_alike : GoodIn wsX6_synonyms (wsV RX6 98 RX5 yX5_alike wsX5_alike) := goodIn_app (goodIn_of _ (by decide +kernel)) ggX6_synonyms_X5_alike
set_option maxRecDepth 20000 in
theorem ggX6_synonyms_X5_join : GoodIn wsX6_synonyms wsX5_join := goodIn_r _ [23, 13, 14, 15, 16, 17, 18, 19, 24, 25, 26, 27, 38, 39] (by decide +kernel) (by decide +kernel)
set_option maxRecDepth 20000 in
theorem gX6_synonyms_X5_join : GoodIn wsX6_synonyms (wsV RX6 102 RX5 yX5_join wsX5_join) := goodIn_app (goodIn_of _ (by decide +kernel)) ggX6_synonyms_X5_join
theorem dX6_synonyms_0 : decode cX6_synonyms 0 = .ok (.iload_n 1, 1) := by decide +kernel
theorem dX6_synonyms_1 : decode cX6_synonyms 1 = .ok (.invokestatic 65, 3) := by decide +kernel
theorem dX6_synonyms_4 : decode cX6_synonyms 4 = .ok (.iload_n 2, 1) := by decide +kernel
theorem dX6_synonyms_5 : decode cX6_synonyms 5 = .ok (.invokestatic 65, 3) := by decide +kernel
theorem dX6_synonyms_8 : decode cX6_synonyms 8 = .ok (.aload_n 0, 1) := by decide +kernel
theorem dX6_synonyms_9 : decode cX6_synonyms 9 = .ok (.getfield 23, 3) := by decide +kernel
theorem dX6_synonyms_12 : decode cX6_synonyms 12 = .ok (.iload_n 1, 1) := by decide +kernel
theorem dX6_synonyms_13 : decode cX6_synonyms 13 = .ok (.iload_n 2, 1) := by decide +kernel
theorem dX6_synonyms_14 : decode cX6_synonyms 14 = .ok (.invokevirtual 98, 3) := by decide +kernel
theorem dX6_synonyms_17 : decode cX6_synonyms 17 = .ok (.istore_n 3, 1) := by decide +kernel
theorem dX6_synonyms_18 : decode cX6_synonyms 18 = .ok (.aload_n 0, 1) := by decide +kernel
theorem dX6_synonyms_19 : decode cX6_synonyms 19 = .ok (.getfield 23, 3) := by decide +kernel
theorem dX6_synonyms_22 : decode cX6_synonyms 22 = .ok (.iload_n 1, 1) := by decide +kernel
theorem dX6_synonyms_23 : decode cX6_synonyms 23 = .ok (.iload_n 2, 1) := by decide +kernel
theorem dX6_synonyms_24 : decode cX6_synonyms 24 = .ok (.invokevirtual 102, 3) := by decide +kernel
theorem dX6_synonyms_27 : decode cX6_synonyms 27 = .ok (.iload_n 3, 1) := by decide +kernel
theorem dX6_synonyms_28 : decode cX6_synonyms 28 = .ok (.ireturn, 1) := by decide +kernel
set_option maxRecDepth 20000 in
theorem ggX6_chain_X6_requireKind : GoodIn wsX6_chain wsX6_requireKind := goodIn_ca (goodIn_r _ [5, 6, 7] (by decide +kernel) (by decide +kernel)) (goodIn_sub (fun _ h => List.mem_cons_of_mem _ (List.mem_append_right _ h)) (by decide +kernel))
set_option maxRecDepth 20000 in
theorem gX6_chain_X6_requireKind : GoodIn wsX6_chain (va_wsS RX6 106 yX6_requireKind wsX6_requireKind) := goodIn_app (goodIn_of _ (by decide +kernel)) ggX6_chain_X6_requireKind
set_option maxRecDepth 20000 in
theorem ggX6_chain_X0_replace : GoodIn wsX6_chain wsX0_replace := goodIn_r _ [12, 13, 14, 15, 16, 17, 18, 19, 20, 21, 22, 23, 34, 35] (by decide +kernel) (by decide +kernel)
set_option maxRecDepth 20000 in
theorem gX6_chain_X0_replace : GoodIn wsX6_chain (wsV RX6 109 RX0 yX0_replace wsX0_replace) := goodIn_app (goodIn_of _ (by decide +kernel)) ggX6_chain_X0_replace
theorem dX6_chain_0 : decode cX6_chain 0 = .ok (.iload_n 1, 1) := by decide +kernel
theorem dX6_chain_1 : decode cX6_chain 1 = .ok (.invokestatic 106, 3) := by decide +kernel
theorem dX6_chain_4 : decode cX6_chain 4 = .ok (.iload_n 2, 1) := by decide +kernel
theorem dX6_chain_5 : decode cX6_chain 5 = .ok (.invokestatic 106, 3) := by decide +kernel
theorem dX6_chain_8 : decode cX6_chain 8 = .ok (.iload_n 3, 1) := by decide +kernel
theorem dX6_chain_9 : decode cX6_chain 9 = .ok (.iconst (-1), 1) := by decide +kernel
theorem dX6_chain_10 : decode cX6_chain 10 = .ok (.if_icmp .eq 7, 3) := by decide +kernel
theorem dX6_chain_13 : decode cX6_chain 13 = .ok (.iload_n 3, 1) := by decide +kernel
theorem dX6_chain_14 : decode cX6_chain 14 = .ok (.invokestatic 106, 3) := by decide +kernel
theorem dX6_chain_17 : decode cX6_chain 17 = .ok (.aload_n 0, 1) := by decide +kernel
theorem dX6_chain_18 : decode cX6_chain 18 = .ok (.getfield 30, 3) := by decide +kernel
theorem dX6_chain_21 : decode cX6_chain 21 = .ok (.iload_n 1, 1) := by decide +kernel
theorem dX6_chain_22 : decode cX6_chain 22 = .ok (.iload_n 2, 1) := by decide +kernel
theorem dX6_chain_23 : decode cX6_chain 23 = .ok (.iload_n 3, 1) := by decide +kernel
theorem dX6_chain_24 : decode cX6_chain 24 = .ok (.invokevirtual 109, 3) := by decide +kernel
theorem dX6_chain_27 : decode cX6_chain 27 = .ok (.ireturn, 1) := by decide +kernel
set_option maxRecDepth 20000 in
theorem ggX6_ideas_X6_mapAt : GoodIn wsX6_ideas wsX6_mapAt := goodIn_ca (goodIn_r _ [5, 6, 7, 8, 12, 13, 14, 15, 16, 17, 18, 19, 20, 21] (by decide +kernel) (by decide +kernel)) (goodIn_sub (fun _ h => List.mem_cons_of_mem _ (List.mem_append_right _ h)) (by decide +kernel))
set_option maxRecDepth 20000 in
theorem gX6_ideas_X6_mapAt : GoodIn wsX6_ideas (wsV RX6 61 RX6 yX6_mapAt wsX6_mapAt) := goodIn_app (goodIn_of _ (by decide +kernel)) ggX6_ideas_X6_mapAt
theorem dX6_ideas_0 : decode cX6_ideas 0 = .ok (.aload_n 0, 1) := by decide +kernel
theorem dX6_ideas_1 : decode cX6_ideas 1 = .ok (.iload_n 1, 1) := by decide +kernel
theorem dX6_ideas_2 : decode cX6_ideas 2 = .ok (.invokevirtual 61, 3) := by decide +kernel
theorem dX6_ideas_5 : decode cX6_ideas 5 = .ok (.getfield 69, 3) := by decide +kernel
theorem dX6_ideas_8 : decode cX6_ideas 8 = .ok (.ireturn, 1) := by decide +kernel
set_option maxRecDepth 20000 in
theorem ggX6_links_X6_mapAt : GoodIn wsX6_links wsX6_mapAt := goodIn_ca (goodIn_r _ [5, 6, 7, 8, 31, 32, 33, 34, 35, 36, 37, 38, 39, 40] (by decide +kernel) (by decide +kernel)) (goodIn_sub (fun _ h => List.mem_cons_of_mem _ (List.mem_append_right _ h)) (by decide +kernel))
set_option maxRecDepth 20000 in
theorem gX6_links_X6_mapAt : GoodIn wsX6_links (wsV RX6 61 RX6 yX6_mapAt wsX6_mapAt) := goodIn_app (goodIn_of _ (by decide +kernel)) ggX6_links_X6_mapAt
set_option maxRecDepth 20000 in
theorem ggX6_links_X2_count : GoodIn wsX6_links wsX2_count := goodIn_r _ [13, 14, 15, 16, 17, 18, 19, 20, 21, 22, 23, 24, 25, 26, 27, 41, 42] (by decide +kernel) (by decide +kernel)
set_option maxRecDepth 20000 in
theorem gX6_links_X2_count : GoodIn wsX6_links (wsV RX6 113 RX2 yX2_count wsX2_count) := goodIn_app (goodIn_of _ (by decide +kernel)) ggX6_links_X2_count
theorem dX6_links_0 : decode cX6_links 0 = .ok (.aload_n 0, 1) := by decide +kernel
theorem dX6_links_1 : decode cX6_links 1 = .ok (.iload_n 1, 1) := by decide +kernel
theorem dX6_links_2 : decode cX6_links 2 = .ok (.invokevirtual 61, 3) := by decide +kernel
theorem dX6_links_5 : decode cX6_links 5 = .ok (.getfield 87, 3) := by decide +kernel
theorem dX6_links_8 : decode cX6_links 8 = .ok (.invokevirtual 113, 3) := by decide +kernel
theorem dX6_links_11 : decode cX6_links 11 = .ok (.ireturn, 1) := by decide +kernel
set_option maxRecDepth 20000 in
theorem ggX6_held_X6_mapAt : GoodIn wsX6_held wsX6_mapAt := goodIn_ca (goodIn_r _ [7, 8, 9, 10, 66, 67, 68, 69, 70, 71, 72, 73, 74, 75] (by decide +kernel) (by decide +kernel)) (goodIn_sub (fun _ h => List.mem_cons_of_mem _ (List.mem_append_right _ h)) (by decide +kernel))
set_option maxRecDepth 20000 in
theorem gX6_held_X6_mapAt : GoodIn wsX6_held (wsV RX6 61 RX6 yX6_mapAt wsX6_mapAt) := goodIn_app (goodIn_of _ (by decide +kernel)) ggX6_held_X6_mapAt
set_option maxRecDepth 20000 in
theorem ggX6_held_X2_become : GoodIn wsX6_held wsX2_become := goodIn_r _ [15, 16, 17, 18, 19, 20, 21, 22, 23, 24, 25, 26, 79, 80] (by decide +kernel) (by decide +kernel)
set_option maxRecDepth 20000 in
theorem gX6_held_X2_become : GoodIn wsX6_held (wsV RX6 116 RX2 yX2_become wsX2_become) := goodIn_app (goodIn_of _ (by decide +kernel)) ggX6_held_X2_become
set_option maxRecDepth 20000 in
theorem ggX6_held_X2_addAllImplied : GoodIn wsX6_held wsX2_addAllImplied := goodIn_r _ [30, 31, 32, 33, 14, 34, 35, 36, 37, 38, 16, 39, 24, 25, 20, 26, 22, 40, 41, 42, 43, 44, 45, 46, 47, 48, 49, 50, 51, 52, 53, 54, 79, 80, 81] (by decide +kernel) (by decide +kernel)
set_option maxRecDepth 20000 in
theorem gX6_held_X2_addAllImplied : GoodIn wsX6_held (wsV RX6 120 RX2 yX2_addAllImplied wsX2_addAllImplied) := goodIn_app (goodIn_of _ (by decide +kernel)) ggX6_held_X2_addAllImplied
set_option maxRecDepth 20000 in
theorem ggX6_held_X2_count : GoodIn wsX6_held wsX2_count := goodIn_r _ [58, 16, 39, 24, 25, 20, 26, 22, 59, 60, 61, 62, 63, 64, 65, 79, 80] (by decide +kernel) (by decide +kernel)
set_option maxRecDepth 20000 in
theorem gX6_held_X2_count : GoodIn wsX6_held (wsV RX6 113 RX2 yX2_count wsX2_count) := goodIn_app (goodIn_of _ (by decide +kernel)) ggX6_held_X2_count
theorem dX6_held_0 : decode cX6_held 0 = .ok (.aload_n 0, 1) := by decide +kernel
theorem dX6_held_1 : decode cX6_held 1 = .ok (.getfield 37, 3) := by decide +kernel
theorem dX6_held_4 : decode cX6_held 4 = .ok (.aload_n 0, 1) := by decide +kernel
theorem dX6_held_5 : decode cX6_held 5 = .ok (.iload_n 1, 1) := by decide +kernel
theorem dX6_held_6 : decode cX6_held 6 = .ok (.invokevirtual 61, 3) := by decide +kernel
theorem dX6_held_9 : decode cX6_held 9 = .ok (.getfield 87, 3) := by decide +kernel
theorem dX6_held_12 : decode cX6_held 12 = .ok (.invokevirtual 116, 3) := by decide +kernel
theorem dX6_held_15 : decode cX6_held 15 = .ok (.aload_n 0, 1) := by decide +kernel
theorem dX6_held_16 : decode cX6_held 16 = .ok (.getfield 37, 3) := by decide +kernel
theorem dX6_held_19 : decode cX6_held 19 = .ok (.aload_n 0, 1) := by decide +kernel
theorem dX6_held_20 : decode cX6_held 20 = .ok (.getfield 30, 3) := by decide +kernel
theorem dX6_held_23 : decode cX6_held 23 = .ok (.invokevirtual 120, 3) := by decide +kernel
theorem dX6_held_26 : decode cX6_held 26 = .ok (.aload_n 0, 1) := by decide +kernel
theorem dX6_held_27 : decode cX6_held 27 = .ok (.getfield 37, 3) := by decide +kernel
theorem dX6_held_30 : decode cX6_held 30 = .ok (.invokevirtual 113, 3) := by decide +kernel
theorem dX6_held_33 : decode cX6_held 33 = .ok (.ireturn, 1) := by decide +kernel
set_option maxRecDepth 20000 in
theorem ggX6_holds_X6_mapAt : GoodIn wsX6_holds wsX6_mapAt := goodIn_ca (goodIn_r _ [7, 8, 9, 10, 70, 71, 72, 73, 74, 75, 76, 77, 78, 79] (by decide +kernel) (by decide +kernel)) (goodIn_sub (fun _ h => List.mem_cons_of_mem _ (List.mem_append_left _ (List.mem_append_right _ h))) (by decide +kernel))
set_option maxRecDepth 20000 in
theorem gX6_holds_X6_mapAt : GoodIn wsX6_holds (wsV RX6 61 RX6 yX6_mapAt wsX6_mapAt) := goodIn_app (goodIn_of _ (by decide +kernel)) ggX6_holds_X6_mapAt
set_option maxRecDepth 20000 in
theorem ggX6_holds_X6_requireLink : GoodIn wsX6_holds wsX6_requireLink := goodIn_ca (goodIn_ca (goodIn_r _ [13, 14, 15, 16, 17, 6, 18, 8, 9, 19, 20, 21, 80, 81, 82] (by decide +kernel) (by decide +kernel)) (goodIn_sub (fun _ h => List.mem_cons_of_mem _ (List.mem_append_right _ h)) (by decide +kernel))) (goodIn_sub (fun _ h => List.mem_cons_of_mem _ (List.mem_append_left _ (List.mem_append_right _ h))) (by decide +kernel))
set_option maxRecDepth 20000 in
theorem gX6_holds_X6_requireLink : GoodIn wsX6_holds (va_wsS RX6 83 yX6_requireLink wsX6_requireLink) := goodIn_app (goodIn_of _ (by decide +kernel)) ggX6_holds_X6_requireLink
set_option maxRecDepth 20000 in
theorem ggX6_holds_X2_become : GoodIn wsX6_holds wsX2_become := goodIn_r _ [26, 27, 28, 29, 30, 31, 32, 33, 34, 35, 36, 37, 83, 84] (by decide +kernel) (by decide +kernel)
set_option maxRecDepth 20000 in
theorem gX6_holds_X2_become : GoodIn wsX6_holds (wsV RX6 116 RX2 yX2_become wsX2_become) := goodIn_app (goodIn_of _ (by decide +kernel)) ggX6_holds_X2_become
