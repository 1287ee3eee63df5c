set_option maxRecDepth 20000 in
theorem ggX6_holds_X2_addAllImplied : GoodIn wsX6_holds wsX2_addAllImplied := goodIn_r _ [41, 42, 43, 44, 25, 45, 46, 47, 48, 49, 27, 50, 35, 36, 31, 37, 33, 51, 52, 53, 54, 55, 56, 57, 58, 59, 60, 61, 62, 63, 64, 65, 83, 84, 85] (by decide +kernel) (by decide +kernel)
set_option maxRecDepth 20000 in
theorem gX6_holds_X2_addAllImplied : GoodIn wsX6_holds (wsV RX6 120 RX2 yX2_addAllImplied wsX2_addAllImplied) := goodIn_app (goodIn_of _ (by decide +kernel)) ggX6_holds_X2_addAllImplied
set_option maxRecDepth 20000 in
theorem ggX6_holds_X2_contains : GoodIn wsX6_holds wsX2_contains := goodIn_r _ [69, 46, 47, 48, 25, 49, 27, 50, 35, 36, 31, 37, 33, 83, 84] (by decide +kernel) (by decide +kernel)
set_option maxRecDepth 20000 in
theorem gX6_holds_X2_contains : GoodIn wsX6_holds (wsV RX6 124 RX2 yX2_contains wsX2_contains) := goodIn_app (goodIn_of _ (by decide +kernel)) ggX6_holds_X2_contains
theorem dX6_holds_0 : decode cX6_holds 0 = .ok (.aload_n 0, 1) := by decide +kernel
theorem dX6_holds_1 : decode cX6_holds 1 = .ok (.iload_n 1, 1) := by decide +kernel
theorem dX6_holds_2 : decode cX6_holds 2 = .ok (.invokevirtual 61, 3) := by decide +kernel
theorem dX6_holds_5 : decode cX6_holds 5 = .ok (.astore 5, 2) := by decide +kernel
theorem dX6_holds_7 : decode cX6_holds 7 = .ok (.aload 5, 2) := by decide +kernel
theorem dX6_holds_9 : decode cX6_holds 9 = .ok (.iload_n 2, 1) := by decide +kernel
theorem dX6_holds_10 : decode cX6_holds 10 = .ok (.iload_n 3, 1) := by decide +kernel
theorem dX6_holds_11 : decode cX6_holds 11 = .ok (.iload 4, 2) := by decide +kernel
theorem dX6_holds_13 : decode cX6_holds 13 = .ok (.invokestatic 83, 3) := by decide +kernel
theorem dX6_holds_16 : decode cX6_holds 16 = .ok (.aload_n 0, 1) := by decide +kernel
theorem dX6_holds_17 : decode cX6_holds 17 = .ok (.getfield 37, 3) := by decide +kernel
theorem dX6_holds_20 : decode cX6_holds 20 = .ok (.aload 5, 2) := by decide +kernel
theorem dX6_holds_22 : decode cX6_holds 22 = .ok (.getfield 87, 3) := by decide +kernel
theorem dX6_holds_25 : decode cX6_holds 25 = .ok (.invokevirtual 116, 3) := by decide +kernel
theorem dX6_holds_28 : decode cX6_holds 28 = .ok (.aload_n 0, 1) := by decide +kernel
theorem dX6_holds_29 : decode cX6_holds 29 = .ok (.getfield 37, 3) := by decide +kernel
theorem dX6_holds_32 : decode cX6_holds 32 = .ok (.aload_n 0, 1) := by decide +kernel
theorem dX6_holds_33 : decode cX6_holds 33 = .ok (.getfield 30, 3) := by decide +kernel
theorem dX6_holds_36 : decode cX6_holds 36 = .ok (.invokevirtual 120, 3) := by decide +kernel
theorem dX6_holds_39 : decode cX6_holds 39 = .ok (.aload_n 0, 1) := by decide +kernel
theorem dX6_holds_40 : decode cX6_holds 40 = .ok (.getfield 37, 3) := by decide +kernel
theorem dX6_holds_43 : decode cX6_holds 43 = .ok (.iload_n 2, 1) := by decide +kernel
theorem dX6_holds_44 : decode cX6_holds 44 = .ok (.iload_n 3, 1) := by decide +kernel
theorem dX6_holds_45 : decode cX6_holds 45 = .ok (.iload 4, 2) := by decide +kernel
theorem dX6_holds_47 : decode cX6_holds 47 = .ok (.invokevirtual 124, 3) := by decide +kernel
theorem dX6_holds_50 : decode cX6_holds 50 = .ok (.ireturn, 1) := by decide +kernel
set_option maxRecDepth 20000 in
theorem ggX6_points_X6_modelAt : GoodIn wsX6_points wsX6_modelAt := goodIn_ca (goodIn_r _ [6, 7, 8, 9, 10, 11, 5, 12, 13, 129, 130, 131, 132, 133, 134, 135, 136, 137, 138] (by decide +kernel) (by decide +kernel)) (goodIn_sub (fun _ h => List.mem_cons_of_mem _ (List.mem_append_right _ h)) (by decide +kernel))
set_option maxRecDepth 20000 in
theorem gX6_points_X6_modelAt : GoodIn wsX6_points (wsV RX6 127 RX6 yX6_modelAt wsX6_modelAt) := goodIn_app (goodIn_of _ (by decide +kernel)) ggX6_points_X6_modelAt
set_option maxRecDepth 20000 in
theorem ggX6_points_X6_prepareMatching : GoodIn wsX6_points wsX6_prepareMatching := goodIn_r _ [17, 18, 19, 20, 1, 21, 22, 23, 24, 25, 26, 27, 28, 29, 30, 31, 32, 33, 34, 35, 36, 37, 38, 39, 40, 41, 42, 43, 44, 45, 46, 47, 48, 49, 50, 51, 52, 53, 54, 55, 56, 57, 58, 59, 60, 61, 62, 63, 64, 65, 66, 67, 68, 69, 70, 71, 72, 73, 74, 75, 76, 77, 78, 79, 80, 81, 82, 83, 84, 85, 86, 87, 88, 89, 90, 91, 92, 93, 94, 95, 96, 97, 98, 99, 100, 101, 102, 5, 103, 104, 105, 106, 107, 108, 109, 110, 111, 112, 113, 129, 130, 131, 132, 133, 134, 135, 136, 137, 138, 139, 140, 141, 142, 143, 144, 145, 146, 147, 148, 149, 150, 151, 152, 153] (by decide +kernel) (by decide +kernel)
set_option maxRecDepth 20000 in
theorem gX6_points_X6_prepareMatching : GoodIn wsX6_points (wsV RX6 130 RX6 yX6_prepareMatching wsX6_prepareMatching) := goodIn_app (goodIn_of _ (by decide +kernel)) ggX6_points_X6_prepareMatching
set_option maxRecDepth 20000 in
theorem ggX6_points_X3_findBest : GoodIn wsX6_points wsX3_findBest := goodIn_r _ [117, 118, 119, 120, 69, 121, 87, 71, 122, 123, 72, 74, 35, 36, 31, 37, 33, 124, 29, 30, 32, 34, 98, 99, 100, 101, 73, 82, 63, 64, 65, 125, 126, 127, 128, 92, 111, 112, 113, 145, 146, 147, 148, 149, 150, 151, 152, 143] (by decide +kernel) (by decide +kernel)
set_option maxRecDepth 20000 in
theorem gX6_points_X3_findBest : GoodIn wsX6_points (wsV RX6 134 RX3 yX3_findBest wsX3_findBest) := goodIn_app (goodIn_of _ (by decide +kernel)) ggX6_points_X3_findBest
theorem dX6_points_0 : decode cX6_points 0 = .ok (.aload_n 0, 1) := by decide +kernel
theorem dX6_points_1 : decode cX6_points 1 = .ok (.aload_n 0, 1) := by decide +kernel
theorem dX6_points_2 : decode cX6_points 2 = .ok (.iload_n 1, 1) := by decide +kernel
theorem dX6_points_3 : decode cX6_points 3 = .ok (.invokevirtual 127, 3) := by decide +kernel
theorem dX6_points_6 : decode cX6_points 6 = .ok (.invokevirtual 130, 3) := by decide +kernel
theorem dX6_points_9 : decode cX6_points 9 = .ok (.aload_n 0, 1) := by decide +kernel
theorem dX6_points_10 : decode cX6_points 10 = .ok (.getfield 50, 3) := by decide +kernel
theorem dX6_points_13 : decode cX6_points 13 = .ok (.iconst (-1), 1) := by decide +kernel
theorem dX6_points_14 : decode cX6_points 14 = .ok (.invokevirtual 134, 3) := by decide +kernel
theorem dX6_points_17 : decode cX6_points 17 = .ok (.ireturn, 1) := by decide +kernel
set_option maxRecDepth 20000 in
theorem ggX6_pointsByTrying_X6_modelAt : GoodIn wsX6_pointsByTrying wsX6_modelAt := goodIn_ca (goodIn_r _ [6, 7, 8, 9, 10, 11, 5, 12, 13, 126, 127, 128, 129, 130, 131, 132, 133, 134, 135] (by decide +kernel) (by decide +kernel)) (goodIn_sub (fun _ h => List.mem_cons_of_mem _ (List.mem_append_right _ h)) (by decide +kernel))
set_option maxRecDepth 20000 in
theorem gX6_pointsByTrying_X6_modelAt : GoodIn wsX6_pointsByTrying (wsV RX6 127 RX6 yX6_modelAt wsX6_modelAt) := goodIn_app (goodIn_of _ (by decide +kernel)) ggX6_pointsByTrying_X6_modelAt
set_option maxRecDepth 20000 in
theorem ggX6_pointsByTrying_X6_prepareMatching : GoodIn wsX6_pointsByTrying wsX6_prepareMatching := goodIn_r _ [17, 18, 19, 20, 1, 21, 22, 23, 24, 25, 26, 27, 28, 29, 30, 31, 32, 33, 34, 35, 36, 37, 38, 39, 40, 41, 42, 43, 44, 45, 46, 47, 48, 49, 50, 51, 52, 53, 54, 55, 56, 57, 58, 59, 60, 61, 62, 63, 64, 65, 66, 67, 68, 69, 70, 71, 72, 73, 74, 75, 76, 77, 78, 79, 80, 81, 82, 83, 84, 85, 86, 87, 88, 89, 90, 91, 92, 93, 94, 95, 96, 97, 98, 99, 100, 101, 102, 5, 103, 104, 105, 106, 107, 108, 109, 110, 111, 112, 113, 126, 127, 128, 129, 130, 131, 132, 133, 134, 135, 136, 137, 138, 139, 140, 141, 142, 143, 144, 145, 146, 147, 148, 149, 150] (by decide +kernel) (by decide +kernel)
set_option maxRecDepth 20000 in
theorem gX6_pointsByTrying_X6_prepareMatching : GoodIn wsX6_pointsByTrying (wsV RX6 130 RX6 yX6_prepareMatching wsX6_prepareMatching) := goodIn_app (goodIn_of _ (by decide +kernel)) ggX6_pointsByTrying_X6_prepareMatching
set_option maxRecDepth 20000 in
theorem ggX6_pointsByTrying_X3_mostByTrying : GoodIn wsX6_pointsByTrying wsX3_mostByTrying := goodIn_r _ [117, 118, 119, 69, 120, 71, 121, 72, 93, 94, 95, 96, 82, 63, 64, 31, 65, 33, 98, 99, 100, 101, 73, 74, 35, 36, 37, 122, 123, 124, 125, 92, 111, 112, 113, 142, 143, 144, 145, 146, 147, 148, 149, 140] (by decide +kernel) (by decide +kernel)
set_option maxRecDepth 20000 in
theorem gX6_pointsByTrying_X3_mostByTrying : GoodIn wsX6_pointsByTrying (wsV RX6 137 RX3 yX3_mostByTrying wsX3_mostByTrying) := goodIn_app (goodIn_of _ (by decide +kernel)) ggX6_pointsByTrying_X3_mostByTrying
theorem dX6_pointsByTrying_0 : decode cX6_pointsByTrying 0 = .ok (.aload_n 0, 1) := by decide +kernel
theorem dX6_pointsByTrying_1 : decode cX6_pointsByTrying 1 = .ok (.aload_n 0, 1) := by decide +kernel
theorem dX6_pointsByTrying_2 : decode cX6_pointsByTrying 2 = .ok (.iload_n 1, 1) := by decide +kernel
theorem dX6_pointsByTrying_3 : decode cX6_pointsByTrying 3 = .ok (.invokevirtual 127, 3) := by decide +kernel
theorem dX6_pointsByTrying_6 : decode cX6_pointsByTrying 6 = .ok (.invokevirtual 130, 3) := by decide +kernel
theorem dX6_pointsByTrying_9 : decode cX6_pointsByTrying 9 = .ok (.aload_n 0, 1) := by decide +kernel
theorem dX6_pointsByTrying_10 : decode cX6_pointsByTrying 10 = .ok (.getfield 50, 3) := by decide +kernel
theorem dX6_pointsByTrying_13 : decode cX6_pointsByTrying 13 = .ok (.invokevirtual 137, 3) := by decide +kernel
theorem dX6_pointsByTrying_16 : decode cX6_pointsByTrying 16 = .ok (.ireturn, 1) := by decide +kernel
set_option maxRecDepth 20000 in
theorem ggX6_mark_X6_modelAt : GoodIn wsX6_mark wsX6_modelAt := goodIn_ca (goodIn_r _ [5, 6, 7, 8, 9, 10, 4, 11, 12, 138, 139, 140, 141, 142, 143, 144, 145, 146, 147] (by decide +kernel) (by decide +kernel)) (goodIn_sub (fun _ h => List.mem_cons_of_mem _ (List.mem_append_right _ h)) (by decide +kernel))
set_option maxRecDepth 20000 in
theorem gX6_mark_X6_modelAt : GoodIn wsX6_mark (wsV RX6 127 RX6 yX6_modelAt wsX6_modelAt) := goodIn_app (goodIn_of _ (by decide +kernel)) ggX6_mark_X6_modelAt
set_option maxRecDepth 20000 in
theorem ggX6_mark_X6_markOf : GoodIn wsX6_mark wsX6_markOf := goodIn_r _ [16, 17, 18, 19, 20, 21, 22, 23, 24, 25, 26, 27, 28, 29, 30, 31, 32, 33, 34, 35, 36, 37, 38, 39, 4, 40, 41, 42, 43, 44, 45, 46, 47, 48, 49, 50, 51, 52, 53, 54, 55, 56, 57, 58, 59, 60, 61, 62, 63, 64, 65, 66, 67, 68, 69, 70, 71, 72, 73, 74, 75, 76, 77, 78, 79, 80, 81, 82, 83, 84, 85, 86, 87, 88, 89, 90, 91, 92, 93, 94, 95, 96, 97, 98, 99, 100, 101, 102, 103, 104, 105, 106, 107, 108, 109, 110, 111, 112, 113, 114, 115, 116, 117, 118, 119, 120, 121, 122, 123, 124, 125, 126, 127, 128, 129, 130, 131, 132, 133, 134, 135, 136, 137, 148, 149, 150, 138, 139, 140, 141, 142, 143, 144, 145, 146, 147, 151, 152, 153, 154, 155, 156, 157, 158, 159, 160, 161, 162] (by decide +kernel) (by decide +kernel)
set_option maxRecDepth 20000 in
theorem gX6_mark_X6_markOf : GoodIn wsX6_mark (wsV RX6 140 RX6 yX6_markOf wsX6_markOf) := goodIn_app (goodIn_of _ (by decide +kernel)) ggX6_mark_X6_markOf
theorem dX6_mark_0 : decode cX6_mark 0 = .ok (.aload_n 0, 1) := by decide +kernel
theorem dX6_mark_1 : decode cX6_mark 1 = .ok (.aload_n 0, 1) := by decide +kernel
theorem dX6_mark_2 : decode cX6_mark 2 = .ok (.iload_n 1, 1) := by decide +kernel
theorem dX6_mark_3 : decode cX6_mark 3 = .ok (.invokevirtual 127, 3) := by decide +kernel
theorem dX6_mark_6 : decode cX6_mark 6 = .ok (.invokevirtual 140, 3) := by decide +kernel
theorem dX6_mark_9 : decode cX6_mark 9 = .ok (.ireturn, 1) := by decide +kernel
set_option maxRecDepth 20000 in
theorem ggX6_bestModel_X2_count : GoodIn wsX6_bestModel wsX2_count := goodIn_r _ [6, 7, 8, 9, 10, 11, 12, 13, 14, 15, 16, 17, 18, 19, 20, 141, 142] (by decide +kernel) (by decide +kernel)
set_option maxRecDepth 20000 in
theorem gX6_bestModel_X2_count : GoodIn wsX6_bestModel (wsV RX6 113 RX2 yX2_count wsX2_count) := goodIn_app (goodIn_of _ (by decide +kernel)) ggX6_bestModel_X2_count
set_option maxRecDepth 20000 in
theorem ggX6_bestModel_X6_markOf : GoodIn wsX6_bestModel wsX6_markOf := goodIn_r _ [25, 26, 2, 3, 4, 5, 6, 7, 8, 9, 10, 11, 12, 13, 14, 15, 16, 17, 18, 19, 20, 27, 28, 29, 24, 30, 31, 32, 33, 34, 35, 36, 37, 38, 39, 40, 41, 42, 43, 44, 45, 46, 47, 48, 49, 50, 51, 52, 53, 54, 55, 56, 57, 58, 59, 60, 61, 62, 63, 64, 65, 66, 67, 68, 69, 70, 71, 72, 73, 74, 75, 76, 77, 78, 79, 80, 81, 82, 83, 84, 85, 86, 87, 88, 89, 90, 91, 92, 93, 94, 95, 96, 97, 98, 99, 100, 101, 102, 103, 104, 105, 106, 107, 108, 109, 110, 111, 112, 113, 114, 115, 116, 117, 118, 119, 120, 121, 122, 123, 124, 125, 126, 127, 138, 139, 140, 128, 129, 130, 131, 132, 133, 134, 135, 136, 137, 141, 142, 143, 144, 145, 146, 147, 148, 149, 150, 151, 152] (by decide +kernel) (by decide +kernel)
set_option maxRecDepth 20000 in
theorem gX6_bestModel_X6_markOf : GoodIn wsX6_bestModel (wsV RX6 140 RX6 yX6_markOf wsX6_markOf) := goodIn_app (goodIn_of _ (by decide +kernel)) ggX6_bestModel_X6_markOf
theorem dX6_bestModel_0 : decode cX6_bestModel 0 = .ok (.iconst (-1), 1) := by decide +kernel
theorem dX6_bestModel_1 : decode cX6_bestModel 1 = .ok (.istore_n 1, 1) := by decide +kernel
theorem dX6_bestModel_2 : decode cX6_bestModel 2 = .ok (.iconst (-1), 1) := by decide +kernel
theorem dX6_bestModel_3 : decode cX6_bestModel 3 = .ok (.istore_n 2, 1) := by decide +kernel
theorem dX6_bestModel_4 : decode cX6_bestModel 4 = .ok (.iconst 1, 1) := by decide +kernel
theorem dX6_bestModel_5 : decode cX6_bestModel 5 = .ok (.istore_n 3, 1) := by decide +kernel
theorem dX6_bestModel_6 : decode cX6_bestModel 6 = .ok (.iload_n 3, 1) := by decide +kernel
theorem dX6_bestModel_7 : decode cX6_bestModel 7 = .ok (.aload_n 0, 1) := by decide +kernel
theorem dX6_bestModel_8 : decode cX6_bestModel 8 = .ok (.getfield 16, 3) := by decide +kernel
theorem dX6_bestModel_11 : decode cX6_bestModel 11 = .ok (.arraylength, 1) := by decide +kernel
theorem dX6_bestModel_12 : decode cX6_bestModel 12 = .ok (.if_icmp .ge 56, 3) := by decide +kernel
theorem dX6_bestModel_15 : decode cX6_bestModel 15 = .ok (.aload_n 0, 1) := by decide +kernel
theorem dX6_bestModel_16 : decode cX6_bestModel 16 = .ok (.getfield 16, 3) := by decide +kernel
theorem dX6_bestModel_19 : decode cX6_bestModel 19 = .ok (.iload_n 3, 1) := by decide +kernel
theorem dX6_bestModel_20 : decode cX6_bestModel 20 = .ok (.aaload, 1) := by decide +kernel
theorem dX6_bestModel_21 : decode cX6_bestModel 21 = .ok (.astore 4, 2) := by decide +kernel
theorem dX6_bestModel_23 : decode cX6_bestModel 23 = .ok (.aload 4, 2) := by decide +kernel
theorem dX6_bestModel_25 : decode cX6_bestModel 25 = .ok (.ifnull 14, 3) := by decide +kernel
theorem dX6_bestModel_28 : decode cX6_bestModel 28 = .ok (.aload 4, 2) := by decide +kernel
theorem dX6_bestModel_30 : decode cX6_bestModel 30 = .ok (.getfield 87, 3) := by decide +kernel
theorem dX6_bestModel_33 : decode cX6_bestModel 33 = .ok (.invokevirtual 113, 3) := by decide +kernel
theorem dX6_bestModel_36 : decode cX6_bestModel 36 = .ok (.ifCond .ne 7, 3) := by decide +kernel
theorem dX6_bestModel_39 : decode cX6_bestModel 39 = .ok (.iconst (-1), 1) := by decide +kernel
theorem dX6_bestModel_40 : decode cX6_bestModel 40 = .ok (.goto 9, 3) := by decide +kernel
theorem dX6_bestModel_43 : decode cX6_bestModel 43 = .ok (.aload_n 0, 1) := by decide +kernel
theorem dX6_bestModel_44 : decode cX6_bestModel 44 = .ok (.aload 4, 2) := by decide +kernel
theorem dX6_bestModel_46 : decode cX6_bestModel 46 = .ok (.invokevirtual 140, 3) := by decide +kernel
theorem dX6_bestModel_49 : decode cX6_bestModel 49 = .ok (.istore 5, 2) := by decide +kernel
theorem dX6_bestModel_51 : decode cX6_bestModel 51 = .ok (.iload 5, 2) := by decide +kernel
theorem dX6_bestModel_53 : decode cX6_bestModel 53 = .ok (.iload_n 2, 1) := by decide +kernel
theorem dX6_bestModel_54 : decode cX6_bestModel 54 = .ok (.if_icmp .le 8, 3) := by decide +kernel
theorem dX6_bestModel_57 : decode cX6_bestModel 57 = .ok (.iload 5, 2) := by decide +kernel
theorem dX6_bestModel_59 : decode cX6_bestModel 59 = .ok (.istore_n 2, 1) := by decide +kernel
theorem dX6_bestModel_60 : decode cX6_bestModel 60 = .ok (.iload_n 3, 1) := by decide +kernel
theorem dX6_bestModel_61 : decode cX6_bestModel 61 = .ok (.istore_n 1, 1) := by decide +kernel
theorem dX6_bestModel_62 : decode cX6_bestModel 62 = .ok (.iinc 3 1, 3) := by decide +kernel
theorem dX6_bestModel_65 : decode cX6_bestModel 65 = .ok (.goto (-59), 3) := by decide +kernel
theorem dX6_bestModel_68 : decode cX6_bestModel 68 = .ok (.iload_n 1, 1) := by decide +kernel
theorem dX6_bestModel_69 : decode cX6_bestModel 69 = .ok (.ireturn, 1) := by decide +kernel
set_option maxRecDepth 20000 in
theorem ggX6_matchOf_X6_modelAt : GoodIn wsX6_matchOf wsX6_modelAt := goodIn_ca (goodIn_r _ [7, 8, 9, 10, 11, 12, 6, 13, 14, 133, 134, 135, 136, 137, 138, 139, 140, 141, 142] (by decide +kernel) (by decide +kernel)) (goodIn_sub (fun _ h => List.mem_cons_of_mem _ (List.mem_append_right _ h)) (by decide +kernel))
set_option maxRecDepth 20000 in
theorem gX6_matchOf_X6_modelAt : GoodIn wsX6_matchOf (wsV RX6 127 RX6 yX6_modelAt wsX6_modelAt) := goodIn_app (goodIn_of _ (by decide +kernel)) ggX6_matchOf_X6_modelAt
set_option maxRecDepth 20000 in
theorem ggX6_matchOf_X6_requireIdea : GoodIn wsX6_matchOf wsX6_requireIdea := goodIn_ca (goodIn_r _ [17, 8, 9, 151, 152, 153] (by decide +kernel) (by decide +kernel)) (goodIn_sub (fun _ h => List.mem_cons_of_mem _ (List.mem_append_right _ h)) (by decide +kernel))
set_option maxRecDepth 20000 in
theorem gX6_matchOf_X6_requireIdea : GoodIn wsX6_matchOf (va_wsS RX6 144 yX6_requireIdea wsX6_requireIdea) := goodIn_app (goodIn_of _ (by decide +kernel)) ggX6_matchOf_X6_requireIdea
set_option maxRecDepth 20000 in
theorem ggX6_matchOf_X6_prepareMatching : GoodIn wsX6_matchOf wsX6_prepareMatching := goodIn_r _ [21, 22, 1, 23, 2, 24, 25, 26, 27, 28, 29, 30, 31, 32, 33, 34, 35, 36, 37, 38, 39, 40, 41, 42, 43, 44, 45, 46, 47, 48, 49, 50, 51, 52, 53, 54, 55, 56, 57, 58, 59, 60, 61, 62, 63, 64, 65, 66, 67, 68, 69, 70, 71, 72, 73, 74, 75, 76, 77, 78, 79, 80, 81, 82, 83, 84, 85, 86, 87, 88, 89, 90, 91, 92, 93, 94, 95, 96, 97, 98, 99, 100, 101, 102, 103, 104, 105, 6, 106, 107, 108, 109, 110, 111, 112, 113, 114, 115, 116, 133, 134, 135, 136, 137, 138, 139, 140, 141, 142, 151, 152, 153, 154, 155, 156, 143, 144, 145, 146, 147, 148, 149, 150, 157] (by decide +kernel) (by decide +kernel)
set_option maxRecDepth 20000 in
theorem gX6_matchOf_X6_prepareMatching : GoodIn wsX6_matchOf (wsV RX6 130 RX6 yX6_prepareMatching wsX6_prepareMatching) := goodIn_app (goodIn_of _ (by decide +kernel)) ggX6_matchOf_X6_prepareMatching
set_option maxRecDepth 20000 in
theorem ggX6_matchOf_X3_findBest : GoodIn wsX6_matchOf wsX3_findBest := goodIn_r _ [120, 121, 122, 123, 72, 124, 90, 74, 125, 126, 75, 77, 38, 39, 34, 40, 36, 127, 32, 33, 35, 37, 101, 102, 103, 104, 76, 85, 66, 67, 68, 128, 129, 130, 131, 95, 114, 115, 116, 143, 144, 145, 146, 147, 148, 149, 150, 155] (by decide +kernel) (by decide +kernel)
set_option maxRecDepth 20000 in
theorem gX6_matchOf_X3_findBest : GoodIn wsX6_matchOf (wsV RX6 134 RX3 yX3_findBest wsX3_findBest) := goodIn_app (goodIn_of _ (by decide +kernel)) ggX6_matchOf_X3_findBest
set_option maxRecDepth 20000 in
theorem ggX6_matchOf_X4_get : GoodIn wsX6_matchOf wsX4_get := goodIn_r _ [40, 36, 155] (by decide +kernel) (by decide +kernel)
set_option maxRecDepth 20000 in
theorem gX6_matchOf_X4_get : GoodIn wsX6_matchOf (wsV RX6 152 RX4 yX4_get wsX4_get) := goodIn_app (goodIn_of _ (by decide +kernel)) ggX6_matchOf_X4_get
theorem dX6_matchOf_0 : decode cX6_matchOf 0 = .ok (.aload_n 0, 1) := by decide +kernel
theorem dX6_matchOf_1 : decode cX6_matchOf 1 = .ok (.iload_n 1, 1) := by decide +kernel
theorem dX6_matchOf_2 : decode cX6_matchOf 2 = .ok (.invokevirtual 127, 3) := by decide +kernel
theorem dX6_matchOf_5 : decode cX6_matchOf 5 = .ok (.astore_n 3, 1) := by decide +kernel
theorem dX6_matchOf_6 : decode cX6_matchOf 6 = .ok (.aload_n 0, 1) := by decide +kernel
theorem dX6_matchOf_7 : decode cX6_matchOf 7 = .ok (.getfield 12, 3) := by decide +kernel
theorem dX6_matchOf_10 : decode cX6_matchOf 10 = .ok (.iload_n 2, 1) := by decide +kernel
theorem dX6_matchOf_11 : decode cX6_matchOf 11 = .ok (.invokestatic 144, 3) := by decide +kernel
theorem dX6_matchOf_14 : decode cX6_matchOf 14 = .ok (.aload_n 0, 1) := by decide +kernel
theorem dX6_matchOf_15 : decode cX6_matchOf 15 = .ok (.aload_n 3, 1) := by decide +kernel
theorem dX6_matchOf_16 : decode cX6_matchOf 16 = .ok (.invokevirtual 130, 3) := by decide +kernel
theorem dX6_matchOf_19 : decode cX6_matchOf 19 = .ok (.aload_n 0, 1) := by decide +kernel
theorem dX6_matchOf_20 : decode cX6_matchOf 20 = .ok (.getfield 50, 3) := by decide +kernel
theorem dX6_matchOf_23 : decode cX6_matchOf 23 = .ok (.iconst (-1), 1) := by decide +kernel
theorem dX6_matchOf_24 : decode cX6_matchOf 24 = .ok (.invokevirtual 134, 3) := by decide +kernel
theorem dX6_matchOf_27 : decode cX6_matchOf 27 = .ok (.pop, 1) := by decide +kernel
theorem dX6_matchOf_28 : decode cX6_matchOf 28 = .ok (.aload_n 0, 1) := by decide +kernel
theorem dX6_matchOf_29 : decode cX6_matchOf 29 = .ok (.getfield 50, 3) := by decide +kernel
theorem dX6_matchOf_32 : decode cX6_matchOf 32 = .ok (.getfield 148, 3) := by decide +kernel
theorem dX6_matchOf_35 : decode cX6_matchOf 35 = .ok (.iload_n 2, 1) := by decide +kernel
theorem dX6_matchOf_36 : decode cX6_matchOf 36 = .ok (.invokevirtual 152, 3) := by decide +kernel
theorem dX6_matchOf_39 : decode cX6_matchOf 39 = .ok (.ireturn, 1) := by decide +kernel
set_option maxRecDepth 20000 in
theorem ggX6_verdict_X6_modelAt : GoodIn wsX6_verdict wsX6_modelAt := goodIn_ca (goodIn_r _ [10, 11, 12, 13, 14, 15, 9, 16, 17, 158, 159, 160, 161, 162, 163, 164, 165, 166, 167] (by decide +kernel) (by decide +kernel)) (goodIn_sub (fun _ h => List.mem_cons_of_mem _ (List.mem_append_left _ (List.mem_append_right _ h))) (by decide +kernel))
set_option maxRecDepth 20000 in
theorem gX6_verdict_X6_modelAt : GoodIn wsX6_verdict (wsV RX6 127 RX6 yX6_modelAt wsX6_modelAt) := goodIn_app (goodIn_of _ (by decide +kernel)) ggX6_verdict_X6_modelAt
set_option maxRecDepth 20000 in
theorem ggX6_verdict_X6_requireLink : GoodIn wsX6_verdict wsX6_requireLink := goodIn_ca (goodIn_ca (goodIn_r _ [20, 21, 22, 23, 24, 9, 25, 11, 12, 26, 27, 28, 155, 156, 157] (by decide +kernel) (by decide +kernel)) (goodIn_sub (fun _ h => List.mem_cons_of_mem _ (List.mem_append_right _ h)) (by decide +kernel))) (goodIn_sub (fun _ h => List.mem_cons_of_mem _ (List.mem_append_left _ (List.mem_append_right _ h))) (by decide +kernel))
set_option maxRecDepth 20000 in
theorem gX6_verdict_X6_requireLink : GoodIn wsX6_verdict (va_wsS RX6 83 yX6_requireLink wsX6_requireLink) := goodIn_app (goodIn_of _ (by decide +kernel)) ggX6_verdict_X6_requireLink
set_option maxRecDepth 20000 in
theorem ggX6_verdict_X2_contains : GoodIn wsX6_verdict wsX2_contains := goodIn_r _ [33, 34, 35, 36, 32, 37, 38, 39, 40, 41, 42, 43, 44, 168, 169] (by decide +kernel) (by decide +kernel)
set_option maxRecDepth 20000 in
theorem gX6_verdict_X2_contains : GoodIn wsX6_verdict (wsV RX6 124 RX2 yX2_contains wsX2_contains) := goodIn_app (goodIn_of _ (by decide +kernel)) ggX6_verdict_X2_contains
set_option maxRecDepth 20000 in
theorem ggX6_verdict_X6_prepareMatching : GoodIn wsX6_verdict wsX6_prepareMatching := goodIn_r _ [48, 4, 5, 49, 3, 50, 51, 52, 53, 32, 54, 38, 55, 56, 57, 42, 58, 44, 59, 40, 41, 43, 60, 61, 62, 63, 64, 65, 66, 67, 34, 35, 36, 37, 39, 68, 69, 70, 71, 72, 73, 74, 75, 76, 77, 78, 79, 80, 81, 82, 83, 84, 85, 86, 87, 88, 89, 90, 91, 92, 93, 94, 95, 96, 97, 98, 99, 100, 101, 102, 103, 104, 105, 106, 107, 108, 109, 110, 111, 112, 113, 114, 115, 116, 117, 118, 119, 9, 120, 121, 122, 123, 124, 125, 126, 127, 128, 129, 130, 158, 159, 160, 161, 162, 163, 164, 165, 166, 167, 155, 156, 157, 168, 169, 170, 171, 172, 173, 174, 175, 176, 177, 178, 179] (by decide +kernel) (by decide +kernel)
set_option maxRecDepth 20000 in
theorem gX6_verdict_X6_prepareMatching : GoodIn wsX6_verdict (wsV RX6 130 RX6 yX6_prepareMatching wsX6_prepareMatching) := goodIn_app (goodIn_of _ (by decide +kernel)) ggX6_verdict_X6_prepareMatching
set_option maxRecDepth 20000 in
theorem ggX6_verdict_X3_findBest : GoodIn wsX6_verdict wsX3_findBest := goodIn_r _ [134, 135, 136, 137, 86, 138, 104, 88, 139, 140, 89, 91, 40, 41, 42, 43, 44, 141, 56, 57, 58, 59, 115, 116, 117, 118, 90, 99, 80, 81, 82, 142, 143, 144, 145, 109, 128, 129, 130, 171, 172, 173, 174, 175, 176, 177, 178, 169] (by decide +kernel) (by decide +kernel)
set_option maxRecDepth 20000 in
theorem gX6_verdict_X3_findBest : GoodIn wsX6_verdict (wsV RX6 134 RX3 yX3_findBest wsX3_findBest) := goodIn_app (goodIn_of _ (by decide +kernel)) ggX6_verdict_X3_findBest
set_option maxRecDepth 20000 in
theorem ggX6_verdict_X3_pupilIdeaFor : GoodIn wsX6_verdict wsX3_pupilIdeaFor := goodIn_r _ [149, 88, 139, 91, 40, 41, 42, 43, 44, 171, 172, 173, 174, 175, 176, 177, 178, 169] (by decide +kernel) (by decide +kernel)
set_option maxRecDepth 20000 in
theorem gX6_verdict_X3_pupilIdeaFor : GoodIn wsX6_verdict (wsV RX6 159 RX3 yX3_pupilIdeaFor wsX3_pupilIdeaFor) := goodIn_app (goodIn_of _ (by decide +kernel)) ggX6_verdict_X3_pupilIdeaFor
set_option maxRecDepth 20000 in
theorem ggX6_verdict_X2_between : GoodIn wsX6_verdict wsX2_between := goodIn_r _ [37, 38, 39, 40, 41, 42, 43, 44, 168, 169] (by decide +kernel) (by decide +kernel)
set_option maxRecDepth 20000 in
theorem gX6_verdict_X2_between : GoodIn wsX6_verdict (wsV RX6 162 RX2 yX2_between wsX2_between) := goodIn_app (goodIn_of _ (by decide +kernel)) ggX6_verdict_X2_between
set_option maxRecDepth 20000 in
theorem ggX6_verdict_X6_pointsFor : GoodIn wsX6_verdict wsX6_pointsFor := goodIn_r _ [120, 121, 122, 123, 124, 125, 126, 127] (by decide +kernel) (by decide +kernel)
set_option maxRecDepth 20000 in
theorem gX6_verdict_X6_pointsFor : GoodIn wsX6_verdict (va_wsS RX6 166 yX6_pointsFor wsX6_pointsFor) := goodIn_app (goodIn_of _ (by decide +kernel)) ggX6_verdict_X6_pointsFor
set_option maxRecDepth 20000 in
theorem ggX6_verdict_X6_verdictWorth : GoodIn wsX6_verdict wsX6_verdictWorth := goodIn_r _ [154] (by decide +kernel) (by decide +kernel)
set_option maxRecDepth 20000 in
theorem gX6_verdict_X6_verdictWorth : GoodIn wsX6_verdict (va_wsS RX6 170 yX6_verdictWorth wsX6_verdictWorth) := goodIn_app (goodIn_of _ (by decide +kernel)) ggX6_verdict_X6_verdictWorth
theorem dX6_verdict_0 : decode cX6_verdict 0 = .ok (.aload_n 0, 1) := by decide +kernel
theorem dX6_verdict_1 : decode cX6_verdict 1 = .ok (.iload_n 1, 1) := by decide +kernel
theorem dX6_verdict_2 : decode cX6_verdict 2 = .ok (.invokevirtual 127, 3) := by decide +kernel
theorem dX6_verdict_5 : decode cX6_verdict 5 = .ok (.astore 5, 2) := by decide +kernel
theorem dX6_verdict_7 : decode cX6_verdict 7 = .ok (.aload 5, 2) := by decide +kernel
theorem dX6_verdict_9 : decode cX6_verdict 9 = .ok (.iload_n 2, 1) := by decide +kernel
theorem dX6_verdict_10 : decode cX6_verdict 10 = .ok (.iload_n 3, 1) := by decide +kernel
theorem dX6_verdict_11 : decode cX6_verdict 11 = .ok (.iload 4, 2) := by decide +kernel
theorem dX6_verdict_13 : decode cX6_verdict 13 = .ok (.invokestatic 83, 3) := by decide +kernel
theorem dX6_verdict_16 : decode cX6_verdict 16 = .ok (.aload 5, 2) := by decide +kernel
theorem dX6_verdict_18 : decode cX6_verdict 18 = .ok (.getfield 87, 3) := by decide +kernel
theorem dX6_verdict_21 : decode cX6_verdict 21 = .ok (.iload_n 2, 1) := by decide +kernel
theorem dX6_verdict_22 : decode cX6_verdict 22 = .ok (.iload_n 3, 1) := by decide +kernel
theorem dX6_verdict_23 : decode cX6_verdict 23 = .ok (.iload 4, 2) := by decide +kernel
theorem dX6_verdict_25 : decode cX6_verdict 25 = .ok (.invokevirtual 124, 3) := by decide +kernel
theorem dX6_verdict_28 : decode cX6_verdict 28 = .ok (.ifCond .ne 13, 3) := by decide +kernel
theorem dX6_verdict_31 : decode cX6_verdict 31 = .ok (.new 72, 3) := by decide +kernel
theorem dX6_verdict_34 : decode cX6_verdict 34 = .ok (.dup, 1) := by decide +kernel
theorem dX6_verdict_35 : decode cX6_verdict 35 = .ok (.ldc 157, 2) := by decide +kernel
theorem dX6_verdict_37 : decode cX6_verdict 37 = .ok (.invokespecial 76, 3) := by decide +kernel
theorem dX6_verdict_40 : decode cX6_verdict 40 = .ok (.athrow, 1) := by decide +kernel
theorem dX6_verdict_41 : decode cX6_verdict 41 = .ok (.aload_n 0, 1) := by decide +kernel
theorem dX6_verdict_42 : decode cX6_verdict 42 = .ok (.aload 5, 2) := by decide +kernel
theorem dX6_verdict_44 : decode cX6_verdict 44 = .ok (.invokevirtual 130, 3) := by decide +kernel
theorem dX6_verdict_47 : decode cX6_verdict 47 = .ok (.aload_n 0, 1) := by decide +kernel
theorem dX6_verdict_48 : decode cX6_verdict 48 = .ok (.getfield 50, 3) := by decide +kernel
theorem dX6_verdict_51 : decode cX6_verdict 51 = .ok (.iconst (-1), 1) := by decide +kernel
theorem dX6_verdict_52 : decode cX6_verdict 52 = .ok (.invokevirtual 134, 3) := by decide +kernel
theorem dX6_verdict_55 : decode cX6_verdict 55 = .ok (.pop, 1) := by decide +kernel
theorem dX6_verdict_56 : decode cX6_verdict 56 = .ok (.aload_n 0, 1) := by decide +kernel
theorem dX6_verdict_57 : decode cX6_verdict 57 = .ok (.getfield 50, 3) := by decide +kernel
theorem dX6_verdict_60 : decode cX6_verdict 60 = .ok (.iload_n 2, 1) := by decide +kernel
theorem dX6_verdict_61 : decode cX6_verdict 61 = .ok (.invokevirtual 159, 3) := by decide +kernel
theorem dX6_verdict_64 : decode cX6_verdict 64 = .ok (.istore 6, 2) := by decide +kernel
theorem dX6_verdict_66 : decode cX6_verdict 66 = .ok (.aload_n 0, 1) := by decide +kernel
theorem dX6_verdict_67 : decode cX6_verdict 67 = .ok (.getfield 50, 3) := by decide +kernel
theorem dX6_verdict_70 : decode cX6_verdict 70 = .ok (.iload_n 3, 1) := by decide +kernel
theorem dX6_verdict_71 : decode cX6_verdict 71 = .ok (.invokevirtual 159, 3) := by decide +kernel
theorem dX6_verdict_74 : decode cX6_verdict 74 = .ok (.istore 7, 2) := by decide +kernel
theorem dX6_verdict_76 : decode cX6_verdict 76 = .ok (.iload 6, 2) := by decide +kernel
theorem dX6_verdict_78 : decode cX6_verdict 78 = .ok (.iconst (-1), 1) := by decide +kernel
theorem dX6_verdict_79 : decode cX6_verdict 79 = .ok (.if_icmp .eq 9, 3) := by decide +kernel
theorem dX6_verdict_82 : decode cX6_verdict 82 = .ok (.iload 7, 2) := by decide +kernel
theorem dX6_verdict_84 : decode cX6_verdict 84 = .ok (.iconst (-1), 1) := by decide +kernel
theorem dX6_verdict_85 : decode cX6_verdict 85 = .ok (.if_icmp .ne 5, 3) := by decide +kernel
theorem dX6_verdict_88 : decode cX6_verdict 88 = .ok (.iconst 0, 1) := by decide +kernel
theorem dX6_verdict_89 : decode cX6_verdict 89 = .ok (.ireturn, 1) := by decide +kernel
theorem dX6_verdict_90 : decode cX6_verdict 90 = .ok (.iconst 1, 1) := by decide +kernel
theorem dX6_verdict_91 : decode cX6_verdict 91 = .ok (.iload 4, 2) := by decide +kernel
theorem dX6_verdict_93 : decode cX6_verdict 93 = .ok (.ishl, 1) := by decide +kernel
theorem dX6_verdict_94 : decode cX6_verdict 94 = .ok (.aload_n 0, 1) := by decide +kernel
theorem dX6_verdict_95 : decode cX6_verdict 95 = .ok (.getfield 37, 3) := by decide +kernel
theorem dX6_verdict_98 : decode cX6_verdict 98 = .ok (.iload 6, 2) := by decide +kernel
theorem dX6_verdict_100 : decode cX6_verdict 100 = .ok (.iload 7, 2) := by decide +kernel
theorem dX6_verdict_102 : decode cX6_verdict 102 = .ok (.invokevirtual 162, 3) := by decide +kernel
theorem dX6_verdict_105 : decode cX6_verdict 105 = .ok (.aload_n 0, 1) := by decide +kernel
theorem dX6_verdict_106 : decode cX6_verdict 106 = .ok (.getfield 12, 3) := by decide +kernel
theorem dX6_verdict_109 : decode cX6_verdict 109 = .ok (.getfield 87, 3) := by decide +kernel
theorem dX6_verdict_112 : decode cX6_verdict 112 = .ok (.iload 6, 2) := by decide +kernel
theorem dX6_verdict_114 : decode cX6_verdict 114 = .ok (.iload 7, 2) := by decide +kernel
theorem dX6_verdict_116 : decode cX6_verdict 116 = .ok (.invokevirtual 162, 3) := by decide +kernel
theorem dX6_verdict_119 : decode cX6_verdict 119 = .ok (.aload_n 0, 1) := by decide +kernel
theorem dX6_verdict_120 : decode cX6_verdict 120 = .ok (.getfield 12, 3) := by decide +kernel
theorem dX6_verdict_123 : decode cX6_verdict 123 = .ok (.getfield 87, 3) := by decide +kernel
theorem dX6_verdict_126 : decode cX6_verdict 126 = .ok (.iload 7, 2) := by decide +kernel
theorem dX6_verdict_128 : decode cX6_verdict 128 = .ok (.iload 6, 2) := by decide +kernel
theorem dX6_verdict_130 : decode cX6_verdict 130 = .ok (.invokevirtual 162, 3) := by decide +kernel
theorem dX6_verdict_133 : decode cX6_verdict 133 = .ok (.invokestatic 166, 3) := by decide +kernel
theorem dX6_verdict_136 : decode cX6_verdict 136 = .ok (.invokestatic 170, 3) := by decide +kernel
theorem dX6_verdict_139 : decode cX6_verdict 139 = .ok (.ireturn, 1) := by decide +kernel
set_option maxRecDepth 20000 in
theorem ggX6_lacking_X6_modelAt : GoodIn wsX6_lacking wsX6_modelAt := goodIn_ca (goodIn_r _ [6, 7, 8, 9, 10, 11, 5, 12, 13, 133, 134, 135, 136, 137, 138, 139, 140, 141, 142] (by decide +kernel) (by decide +kernel)) (goodIn_sub (fun _ h => List.mem_cons_of_mem _ (List.mem_append_right _ h)) (by decide +kernel))
set_option maxRecDepth 20000 in
theorem gX6_lacking_X6_modelAt : GoodIn wsX6_lacking (wsV RX6 127 RX6 yX6_modelAt wsX6_modelAt) := goodIn_app (goodIn_of _ (by decide +kernel)) ggX6_lacking_X6_modelAt
set_option maxRecDepth 20000 in
theorem ggX6_lacking_X6_prepareMatching : GoodIn wsX6_lacking wsX6_prepareMatching := goodIn_r _ [17, 18, 19, 20, 1, 21, 22, 23, 24, 25, 26, 27, 28, 29, 30, 31, 32, 33, 34, 35, 36, 37, 38, 39, 40, 41, 42, 43, 44, 45, 46, 47, 48, 49, 50, 51, 52, 53, 54, 55, 56, 57, 58, 59, 60, 61, 62, 63, 64, 65, 66, 67, 68, 69, 70, 71, 72, 73, 74, 75, 76, 77, 78, 79, 80, 81, 82, 83, 84, 85, 86, 87, 88, 89, 90, 91, 92, 93, 94, 95, 96, 97, 98, 99, 100, 101, 102, 5, 103, 104, 105, 106, 107, 108, 109, 110, 111, 112, 113, 133, 134, 135, 136, 137, 138, 139, 140, 141, 142, 143, 144, 145, 146, 147, 148, 149, 150, 151, 152, 153, 154, 155, 156, 157] (by decide +kernel) (by decide +kernel)
set_option maxRecDepth 20000 in
theorem gX6_lacking_X6_prepareMatching : GoodIn wsX6_lacking (wsV RX6 130 RX6 yX6_prepareMatching wsX6_prepareMatching) := goodIn_app (goodIn_of _ (by decide +kernel)) ggX6_lacking_X6_prepareMatching
set_option maxRecDepth 20000 in
theorem ggX6_lacking_X3_findBest : GoodIn wsX6_lacking wsX3_findBest := goodIn_r _ [117, 118, 119, 120, 69, 121, 87, 71, 122, 123, 72, 74, 35, 36, 31, 37, 33, 124, 29, 30, 32, 34, 98, 99, 100, 101, 73, 82, 63, 64, 65, 125, 126, 127, 128, 92, 111, 112, 113, 149, 150, 151, 152, 153, 154, 155, 156, 147] (by decide +kernel) (by decide +kernel)
set_option maxRecDepth 20000 in
theorem gX6_lacking_X3_findBest : GoodIn wsX6_lacking (wsV RX6 134 RX3 yX3_findBest wsX3_findBest) := goodIn_app (goodIn_of _ (by decide +kernel)) ggX6_lacking_X3_findBest
set_option maxRecDepth 20000 in
theorem ggX6_lacking_X3_pupilIdeaFor : GoodIn wsX6_lacking wsX3_pupilIdeaFor := goodIn_r _ [132, 71, 122, 74, 35, 36, 31, 37, 33, 149, 150, 151, 152, 153, 154, 155, 156, 147] (by decide +kernel) (by decide +kernel)
set_option maxRecDepth 20000 in
theorem gX6_lacking_X3_pupilIdeaFor : GoodIn wsX6_lacking (wsV RX6 159 RX3 yX3_pupilIdeaFor wsX3_pupilIdeaFor) := goodIn_app (goodIn_of _ (by decide +kernel)) ggX6_lacking_X3_pupilIdeaFor
theorem dX6_lacking_0 : decode cX6_lacking 0 = .ok (.aload_n 0, 1) := by decide +kernel
theorem dX6_lacking_1 : decode cX6_lacking 1 = .ok (.iload_n 1, 1) := by decide +kernel
theorem dX6_lacking_2 : decode cX6_lacking 2 = .ok (.invokevirtual 127, 3) := by decide +kernel
theorem dX6_lacking_5 : decode cX6_lacking 5 = .ok (.astore_n 2, 1) := by decide +kernel
theorem dX6_lacking_6 : decode cX6_lacking 6 = .ok (.aload_n 0, 1) := by decide +kernel
theorem dX6_lacking_7 : decode cX6_lacking 7 = .ok (.aload_n 2, 1) := by decide +kernel
theorem dX6_lacking_8 : decode cX6_lacking 8 = .ok (.invokevirtual 130, 3) := by decide +kernel
theorem dX6_lacking_11 : decode cX6_lacking 11 = .ok (.aload_n 0, 1) := by decide +kernel
theorem dX6_lacking_12 : decode cX6_lacking 12 = .ok (.getfield 50, 3) := by decide +kernel
theorem dX6_lacking_15 : decode cX6_lacking 15 = .ok (.iconst (-1), 1) := by decide +kernel
theorem dX6_lacking_16 : decode cX6_lacking 16 = .ok (.invokevirtual 134, 3) := by decide +kernel
theorem dX6_lacking_19 : decode cX6_lacking 19 = .ok (.pop, 1) := by decide +kernel
theorem dX6_lacking_20 : decode cX6_lacking 20 = .ok (.iconst 0, 1) := by decide +kernel
theorem dX6_lacking_21 : decode cX6_lacking 21 = .ok (.istore_n 3, 1) := by decide +kernel
theorem dX6_lacking_22 : decode cX6_lacking 22 = .ok (.iconst 0, 1) := by decide +kernel
theorem dX6_lacking_23 : decode cX6_lacking 23 = .ok (.istore 4, 2) := by decide +kernel
theorem dX6_lacking_25 : decode cX6_lacking 25 = .ok (.iload 4, 2) := by decide +kernel
theorem dX6_lacking_27 : decode cX6_lacking 27 = .ok (.aload_n 2, 1) := by decide +kernel
theorem dX6_lacking_28 : decode cX6_lacking 28 = .ok (.getfield 69, 3) := by decide +kernel
theorem dX6_lacking_31 : decode cX6_lacking 31 = .ok (.if_icmp .ge 25, 3) := by decide +kernel
theorem dX6_lacking_34 : decode cX6_lacking 34 = .ok (.aload_n 0, 1) := by decide +kernel
theorem dX6_lacking_35 : decode cX6_lacking 35 = .ok (.getfield 50, 3) := by decide +kernel
theorem dX6_lacking_38 : decode cX6_lacking 38 = .ok (.iload 4, 2) := by decide +kernel
theorem dX6_lacking_40 : decode cX6_lacking 40 = .ok (.invokevirtual 159, 3) := by decide +kernel
theorem dX6_lacking_43 : decode cX6_lacking 43 = .ok (.iconst (-1), 1) := by decide +kernel
theorem dX6_lacking_44 : decode cX6_lacking 44 = .ok (.if_icmp .ne 6, 3) := by decide +kernel
theorem dX6_lacking_47 : decode cX6_lacking 47 = .ok (.iinc 3 1, 3) := by decide +kernel
theorem dX6_lacking_50 : decode cX6_lacking 50 = .ok (.iinc 4 1, 3) := by decide +kernel
theorem dX6_lacking_53 : decode cX6_lacking 53 = .ok (.goto (-28), 3) := by decide +kernel
theorem dX6_lacking_56 : decode cX6_lacking 56 = .ok (.iload_n 3, 1) := by decide +kernel
theorem dX6_lacking_57 : decode cX6_lacking 57 = .ok (.ireturn, 1) := by decide +kernel
set_option maxRecDepth 20000 in
theorem ggX6_hint_X6_modelAt : GoodIn wsX6_hint wsX6_modelAt := goodIn_ca (goodIn_r _ [6, 7, 8, 9, 10, 11, 5, 12, 13, 146, 147, 148, 149, 150, 151, 152, 153, 154, 155] (by decide +kernel) (by decide +kernel)) (goodIn_sub (fun _ h => List.mem_cons_of_mem _ (List.mem_append_right _ h)) (by decide +kernel))
set_option maxRecDepth 20000 in
theorem gX6_hint_X6_modelAt : GoodIn wsX6_hint (wsV RX6 127 RX6 yX6_modelAt wsX6_modelAt) := goodIn_app (goodIn_of _ (by decide +kernel)) ggX6_hint_X6_modelAt
set_option maxRecDepth 20000 in
theorem ggX6_hint_X6_findBestLink : GoodIn wsX6_hint wsX6_findBestLink := goodIn_r _ [17, 18, 1, 19, 20, 21, 22, 23, 24, 25, 5, 26, 27, 28, 29, 30, 31, 32, 33, 34, 35, 36, 37, 38, 39, 40, 41, 42, 43, 44, 45, 46, 47, 48, 49, 50, 51, 52, 53, 54, 55, 56, 57, 58, 59, 60, 61, 62, 63, 64, 65, 66, 67, 68, 69, 70, 71, 72, 73, 74, 75, 76, 77, 78, 79, 80, 81, 82, 83, 84, 85, 86, 87, 88, 89, 90, 91, 92, 93, 94, 95, 96, 97, 98, 99, 100, 101, 102, 103, 104, 105, 106, 107, 108, 109, 110, 111, 112, 113, 114, 115, 116, 117, 118, 119, 120, 121, 122, 123, 124, 125, 126, 127, 128, 129, 130, 131, 132, 133, 134, 135, 136, 137, 138, 139, 140, 141, 142, 143, 144, 145, 146, 147, 148, 149, 150, 151, 152, 153, 154, 155, 156, 157, 158, 159, 160, 161, 162, 163, 164, 165, 166, 167, 168, 169, 170] (by decide +kernel) (by decide +kernel)
set_option maxRecDepth 20000 in
theorem gX6_hint_X6_findBestLink : GoodIn wsX6_hint (wsV RX6 173 RX6 yX6_findBestLink wsX6_findBestLink) := goodIn_app (goodIn_of _ (by decide +kernel)) ggX6_hint_X6_findBestLink
theorem dX6_hint_0 : decode cX6_hint 0 = .ok (.aload_n 0, 1) := by decide +kernel
theorem dX6_hint_1 : decode cX6_hint 1 = .ok (.aload_n 0, 1) := by decide +kernel
theorem dX6_hint_2 : decode cX6_hint 2 = .ok (.iload_n 1, 1) := by decide +kernel
theorem dX6_hint_3 : decode cX6_hint 3 = .ok (.invokevirtual 127, 3) := by decide +kernel
theorem dX6_hint_6 : decode cX6_hint 6 = .ok (.invokevirtual 173, 3) := by decide +kernel
theorem dX6_hint_9 : decode cX6_hint 9 = .ok (.aload_n 0, 1) := by decide +kernel
theorem dX6_hint_10 : decode cX6_hint 10 = .ok (.getfield 54, 3) := by decide +kernel
theorem dX6_hint_13 : decode cX6_hint 13 = .ok (.ireturn, 1) := by decide +kernel
set_option maxRecDepth 20000 in
theorem ggX6_gain_X6_modelAt : GoodIn wsX6_gain wsX6_modelAt := goodIn_ca (goodIn_r _ [6, 7, 8, 9, 10, 11, 5, 12, 13, 146, 147, 148, 149, 150, 151, 152, 153, 154, 155] (by decide +kernel) (by decide +kernel)) (goodIn_sub (fun _ h => List.mem_cons_of_mem _ (List.mem_append_right _ h)) (by decide +kernel))
set_option maxRecDepth 20000 in
theorem gX6_gain_X6_modelAt : GoodIn wsX6_gain (wsV RX6 127 RX6 yX6_modelAt wsX6_modelAt) := goodIn_app (goodIn_of _ (by decide +kernel)) ggX6_gain_X6_modelAt
set_option maxRecDepth 20000 in
theorem ggX6_gain_X6_findBestLink : GoodIn wsX6_gain wsX6_findBestLink := goodIn_r _ [17, 18, 19, 1, 20, 21, 22, 23, 24, 25, 5, 26, 27, 28, 29, 30, 31, 32, 33, 34, 35, 36, 37, 38, 39, 40, 41, 42, 43, 44, 45, 46, 47, 48, 49, 50, 51, 52, 53, 54, 55, 56, 57, 58, 59, 60, 61, 62, 63, 64, 65, 66, 67, 68, 69, 70, 71, 72, 73, 74, 75, 76, 77, 78, 79, 80, 81, 82, 83, 84, 85, 86, 87, 88, 89, 90, 91, 92, 93, 94, 95, 96, 97, 98, 99, 100, 101, 102, 103, 104, 105, 106, 107, 108, 109, 110, 111, 112, 113, 114, 115, 116, 117, 118, 119, 120, 121, 122, 123, 124, 125, 126, 127, 128, 129, 130, 131, 132, 133, 134, 135, 136, 137, 138, 139, 140, 141, 142, 143, 144, 145, 146, 147, 148, 149, 150, 151, 152, 153, 154, 155, 156, 157, 158, 159, 160, 161, 162, 163, 164, 165, 166, 167, 168, 169, 170] (by decide +kernel) (by decide +kernel)
set_option maxRecDepth 20000 in
theorem gX6_gain_X6_findBestLink : GoodIn wsX6_gain (wsV RX6 173 RX6 yX6_findBestLink wsX6_findBestLink) := goodIn_app (goodIn_of _ (by decide +kernel)) ggX6_gain_X6_findBestLink
theorem dX6_gain_0 : decode cX6_gain 0 = .ok (.aload_n 0, 1) := by decide +kernel
theorem dX6_gain_1 : decode cX6_gain 1 = .ok (.aload_n 0, 1) := by decide +kernel
theorem dX6_gain_2 : decode cX6_gain 2 = .ok (.iload_n 1, 1) := by decide +kernel
theorem dX6_gain_3 : decode cX6_gain 3 = .ok (.invokevirtual 127, 3) := by decide +kernel
theorem dX6_gain_6 : decode cX6_gain 6 = .ok (.invokevirtual 173, 3) := by decide +kernel
theorem dX6_gain_9 : decode cX6_gain 9 = .ok (.aload_n 0, 1) := by decide +kernel
theorem dX6_gain_10 : decode cX6_gain 10 = .ok (.getfield 58, 3) := by decide +kernel
theorem dX6_gain_13 : decode cX6_gain 13 = .ok (.ireturn, 1) := by decide +kernel
theorem dX6_mapAt_0 : decode cX6_mapAt 0 = .ok (.iload_n 1, 1) := by decide +kernel
theorem dX6_mapAt_1 : decode cX6_mapAt 1 = .ok (.ifCond .lt 21, 3) := by decide +kernel
theorem dX6_mapAt_4 : decode cX6_mapAt 4 = .ok (.iload_n 1, 1) := by decide +kernel
theorem dX6_mapAt_5 : decode cX6_mapAt 5 = .ok (.aload_n 0, 1) := by decide +kernel
theorem dX6_mapAt_6 : decode cX6_mapAt 6 = .ok (.getfield 16, 3) := by decide +kernel
theorem dX6_mapAt_9 : decode cX6_mapAt 9 = .ok (.arraylength, 1) := by decide +kernel
theorem dX6_mapAt_10 : decode cX6_mapAt 10 = .ok (.if_icmp .ge 12, 3) := by decide +kernel
theorem dX6_mapAt_13 : decode cX6_mapAt 13 = .ok (.aload_n 0, 1) := by decide +kernel
theorem dX6_mapAt_14 : decode cX6_mapAt 14 = .ok (.getfield 16, 3) := by decide +kernel
theorem dX6_mapAt_17 : decode cX6_mapAt 17 = .ok (.iload_n 1, 1) := by decide +kernel
theorem dX6_mapAt_18 : decode cX6_mapAt 18 = .ok (.aaload, 1) := by decide +kernel
theorem dX6_mapAt_19 : decode cX6_mapAt 19 = .ok (.goto 4, 3) := by decide +kernel
theorem dX6_mapAt_22 : decode cX6_mapAt 22 = .ok (.aconst_null, 1) := by decide +kernel
theorem dX6_mapAt_23 : decode cX6_mapAt 23 = .ok (.astore_n 2, 1) := by decide +kernel
theorem dX6_mapAt_24 : decode cX6_mapAt 24 = .ok (.aload_n 2, 1) := by decide +kernel
theorem dX6_mapAt_25 : decode cX6_mapAt 25 = .ok (.ifnonnull 13, 3) := by decide +kernel
theorem dX6_mapAt_28 : decode cX6_mapAt 28 = .ok (.new 176, 3) := by decide +kernel
theorem dX6_mapAt_31 : decode cX6_mapAt 31 = .ok (.dup, 1) := by decide +kernel
theorem dX6_mapAt_32 : decode cX6_mapAt 32 = .ok (.ldc 178, 2) := by decide +kernel
theorem dX6_mapAt_34 : decode cX6_mapAt 34 = .ok (.invokespecial 180, 3) := by decide +kernel
theorem dX6_mapAt_37 : decode cX6_mapAt 37 = .ok (.athrow, 1) := by decide +kernel
theorem dX6_mapAt_38 : decode cX6_mapAt 38 = .ok (.aload_n 2, 1) := by decide +kernel
theorem dX6_mapAt_39 : decode cX6_mapAt 39 = .ok (.areturn, 1) := by decide +kernel
set_option maxRecDepth 20000 in
theorem ggX6_modelAt_X6_mapAt : GoodIn wsX6_modelAt wsX6_mapAt := goodIn_ca (goodIn_r _ [7, 1, 2, 8, 9, 10, 11, 12, 13, 14, 15, 16, 17, 18] (by decide +kernel) (by decide +kernel)) (goodIn_sub (fun _ h => List.mem_cons_of_mem _ (List.mem_append_right _ h)) (by decide +kernel))
set_option maxRecDepth 20000 in
theorem gX6_modelAt_X6_mapAt : GoodIn wsX6_modelAt (wsV RX6 61 RX6 yX6_mapAt wsX6_mapAt) := goodIn_app (goodIn_of _ (by decide +kernel)) ggX6_modelAt_X6_mapAt
theorem dX6_modelAt_0 : decode cX6_modelAt 0 = .ok (.iload_n 1, 1) := by decide +kernel
theorem dX6_modelAt_1 : decode cX6_modelAt 1 = .ok (.ifCond .ne 13, 3) := by decide +kernel
theorem dX6_modelAt_4 : decode cX6_modelAt 4 = .ok (.new 176, 3) := by decide +kernel
theorem dX6_modelAt_7 : decode cX6_modelAt 7 = .ok (.dup, 1) := by decide +kernel
theorem dX6_modelAt_8 : decode cX6_modelAt 8 = .ok (.ldc 181, 2) := by decide +kernel
theorem dX6_modelAt_10 : decode cX6_modelAt 10 = .ok (.invokespecial 180, 3) := by decide +kernel
theorem dX6_modelAt_13 : decode cX6_modelAt 13 = .ok (.athrow, 1) := by decide +kernel
theorem dX6_modelAt_14 : decode cX6_modelAt 14 = .ok (.aload_n 0, 1) := by decide +kernel
theorem dX6_modelAt_15 : decode cX6_modelAt 15 = .ok (.iload_n 1, 1) := by decide +kernel
theorem dX6_modelAt_16 : decode cX6_modelAt 16 = .ok (.invokevirtual 61, 3) := by decide +kernel
theorem dX6_modelAt_19 : decode cX6_modelAt 19 = .ok (.areturn, 1) := by decide +kernel
theorem dX6_requireIdea_0 : decode cX6_requireIdea 0 = .ok (.iload_n 1, 1) := by decide +kernel
theorem dX6_requireIdea_1 : decode cX6_requireIdea 1 = .ok (.ifCond .lt 11, 3) := by decide +kernel
theorem dX6_requireIdea_4 : decode cX6_requireIdea 4 = .ok (.iload_n 1, 1) := by decide +kernel
theorem dX6_requireIdea_5 : decode cX6_requireIdea 5 = .ok (.aload_n 0, 1) := by decide +kernel
theorem dX6_requireIdea_6 : decode cX6_requireIdea 6 = .ok (.getfield 69, 3) := by decide +kernel
theorem dX6_requireIdea_9 : decode cX6_requireIdea 9 = .ok (.if_icmp .lt 13, 3) := by decide +kernel
theorem dX6_requireIdea_12 : decode cX6_requireIdea 12 = .ok (.new 176, 3) := by decide +kernel
theorem dX6_requireIdea_15 : decode cX6_requireIdea 15 = .ok (.dup, 1) := by decide +kernel
theorem dX6_requireIdea_16 : decode cX6_requireIdea 16 = .ok (.ldc 183, 2) := by decide +kernel
theorem dX6_requireIdea_18 : decode cX6_requireIdea 18 = .ok (.invokespecial 180, 3) := by decide +kernel
theorem dX6_requireIdea_21 : decode cX6_requireIdea 21 = .ok (.athrow, 1) := by decide +kernel
theorem dX6_requireIdea_22 : decode cX6_requireIdea 22 = .ok (.return_, 1) := by decide +kernel
theorem dX6_requireWord_0 : decode cX6_requireWord 0 = .ok (.iload_n 0, 1) := by decide +kernel
theorem dX6_requireWord_1 : decode cX6_requireWord 1 = .ok (.ifCond .lt 9, 3) := by decide +kernel
theorem dX6_requireWord_4 : decode cX6_requireWord 4 = .ok (.iload_n 0, 1) := by decide +kernel
theorem dX6_requireWord_5 : decode cX6_requireWord 5 = .ok (.bipush 32, 2) := by decide +kernel
theorem dX6_requireWord_7 : decode cX6_requireWord 7 = .ok (.if_icmp .lt 13, 3) := by decide +kernel
theorem dX6_requireWord_10 : decode cX6_requireWord 10 = .ok (.new 176, 3) := by decide +kernel
theorem dX6_requireWord_13 : decode cX6_requireWord 13 = .ok (.dup, 1) := by decide +kernel
theorem dX6_requireWord_14 : decode cX6_requireWord 14 = .ok (.ldc 185, 2) := by decide +kernel
theorem dX6_requireWord_16 : decode cX6_requireWord 16 = .ok (.invokespecial 180, 3) := by decide +kernel
theorem dX6_requireWord_19 : decode cX6_requireWord 19 = .ok (.athrow, 1) := by decide +kernel
theorem dX6_requireWord_20 : decode cX6_requireWord 20 = .ok (.return_, 1) := by decide +kernel
theorem dX6_requireKind_0 : decode cX6_requireKind 0 = .ok (.iload_n 0, 1) := by decide +kernel
theorem dX6_requireKind_1 : decode cX6_requireKind 1 = .ok (.ifCond .lt 8, 3) := by decide +kernel
theorem dX6_requireKind_4 : decode cX6_requireKind 4 = .ok (.iload_n 0, 1) := by decide +kernel
theorem dX6_requireKind_5 : decode cX6_requireKind 5 = .ok (.iconst 4, 1) := by decide +kernel
theorem dX6_requireKind_6 : decode cX6_requireKind 6 = .ok (.if_icmp .lt 13, 3) := by decide +kernel
theorem dX6_requireKind_9 : decode cX6_requireKind 9 = .ok (.new 187, 3) := by decide +kernel
theorem dX6_requireKind_12 : decode cX6_requireKind 12 = .ok (.dup, 1) := by decide +kernel
theorem dX6_requireKind_13 : decode cX6_requireKind 13 = .ok (.ldc 189, 2) := by decide +kernel
theorem dX6_requireKind_15 : decode cX6_requireKind 15 = .ok (.invokespecial 191, 3) := by decide +kernel
theorem dX6_requireKind_18 : decode cX6_requireKind 18 = .ok (.athrow, 1) := by decide +kernel
theorem dX6_requireKind_19 : decode cX6_requireKind 19 = .ok (.return_, 1) := by decide +kernel
set_option maxRecDepth 20000 in
theorem ggX6_requireLink_X6_requireIdea : GoodIn wsX6_requireLink wsX6_requireIdea := goodIn_ca (goodIn_r _ [6, 7, 8, 12, 13, 14] (by decide +kernel) (by decide +kernel)) (goodIn_sub (fun _ h => List.mem_cons_of_mem _ (List.mem_append_right _ h)) (by decide +kernel))
set_option maxRecDepth 20000 in
theorem gX6_requireLink_X6_requireIdea : GoodIn wsX6_requireLink (va_wsS RX6 144 yX6_requireIdea wsX6_requireIdea) := goodIn_app (goodIn_of _ (by decide +kernel)) ggX6_requireLink_X6_requireIdea
set_option maxRecDepth 20000 in
theorem ggX6_requireLink_X6_requireKind : GoodIn wsX6_requireLink wsX6_requireKind := goodIn_ca (goodIn_r _ [11, 1, 2] (by decide +kernel) (by decide +kernel)) (goodIn_sub (fun _ h => List.mem_cons_of_mem _ (List.mem_append_left _ (List.mem_append_right _ h))) (by decide +kernel))
set_option maxRecDepth 20000 in
theorem gX6_requireLink_X6_requireKind : GoodIn wsX6_requireLink (va_wsS RX6 106 yX6_requireKind wsX6_requireKind) := goodIn_app (goodIn_of _ (by decide +kernel)) ggX6_requireLink_X6_requireKind
theorem dX6_requireLink_0 : decode cX6_requireLink 0 = .ok (.aload_n 0, 1) := by decide +kernel
theorem dX6_requireLink_1 : decode cX6_requireLink 1 = .ok (.iload_n 1, 1) := by decide +kernel
theorem dX6_requireLink_2 : decode cX6_requireLink 2 = .ok (.invokestatic 144, 3) := by decide +kernel
theorem dX6_requireLink_5 : decode cX6_requireLink 5 = .ok (.aload_n 0, 1) := by decide +kernel
theorem dX6_requireLink_6 : decode cX6_requireLink 6 = .ok (.iload_n 2, 1) := by decide +kernel
theorem dX6_requireLink_7 : decode cX6_requireLink 7 = .ok (.invokestatic 144, 3) := by decide +kernel
theorem dX6_requireLink_10 : decode cX6_requireLink 10 = .ok (.iload_n 1, 1) := by decide +kernel
theorem dX6_requireLink_11 : decode cX6_requireLink 11 = .ok (.iload_n 2, 1) := by decide +kernel
theorem dX6_requireLink_12 : decode cX6_requireLink 12 = .ok (.if_icmp .ne 13, 3) := by decide +kernel
theorem dX6_requireLink_15 : decode cX6_requireLink 15 = .ok (.new 187, 3) := by decide +kernel
theorem dX6_requireLink_18 : decode cX6_requireLink 18 = .ok (.dup, 1) := by decide +kernel
theorem dX6_requireLink_19 : decode cX6_requireLink 19 = .ok (.ldc 192, 2) := by decide +kernel
theorem dX6_requireLink_21 : decode cX6_requireLink 21 = .ok (.invokespecial 191, 3) := by decide +kernel
theorem dX6_requireLink_24 : decode cX6_requireLink 24 = .ok (.athrow, 1) := by decide +kernel
theorem dX6_requireLink_25 : decode cX6_requireLink 25 = .ok (.iload_n 3, 1) := by decide +kernel
theorem dX6_requireLink_26 : decode cX6_requireLink 26 = .ok (.invokestatic 106, 3) := by decide +kernel
theorem dX6_requireLink_29 : decode cX6_requireLink 29 = .ok (.return_, 1) := by decide +kernel
set_option maxRecDepth 20000 in
theorem ggX6_prepareMatching_X2_become : GoodIn wsX6_prepareMatching wsX2_become := goodIn_r _ [10, 11, 12, 13, 14, 15, 16, 17, 18, 19, 20, 21, 112, 113] (by decide +kernel) (by decide +kernel)
set_option maxRecDepth 20000 in
theorem gX6_prepareMatching_X2_become : GoodIn wsX6_prepareMatching (wsV RX6 116 RX2 yX2_become wsX2_become) := goodIn_app (goodIn_of _ (by decide +kernel)) ggX6_prepareMatching_X2_become
set_option maxRecDepth 20000 in
theorem ggX6_prepareMatching_X2_addAllImplied : GoodIn wsX6_prepareMatching wsX2_addAllImplied := goodIn_r _ [25, 26, 27, 28, 9, 29, 30, 31, 32, 33, 11, 34, 19, 20, 15, 21, 17, 35, 36, 37, 38, 39, 40, 41, 42, 43, 44, 45, 46, 47, 48, 49, 112, 113, 114] (by decide +kernel) (by decide +kernel)
set_option maxRecDepth 20000 in
theorem gX6_prepareMatching_X2_addAllImplied : GoodIn wsX6_prepareMatching (wsV RX6 120 RX2 yX2_addAllImplied wsX2_addAllImplied) := goodIn_app (goodIn_of _ (by decide +kernel)) ggX6_prepareMatching_X2_addAllImplied
set_option maxRecDepth 20000 in
theorem ggX6_prepareMatching_X3_takeIdeas : GoodIn wsX6_prepareMatching wsX3_takeIdeas := goodIn_r _ [54, 55, 56, 57, 58, 19, 20, 15, 21, 17, 59, 60, 61, 62, 63, 64, 65, 66, 47, 48, 49, 109, 110, 111, 115, 116, 117, 118, 119, 120, 121, 122, 113, 123] (by decide +kernel) (by decide +kernel)
set_option maxRecDepth 20000 in
theorem gX6_prepareMatching_X3_takeIdeas : GoodIn wsX6_prepareMatching (wsV RX6 194 RX3 yX3_takeIdeas wsX3_takeIdeas) := goodIn_app (goodIn_of _ (by decide +kernel)) ggX6_prepareMatching_X3_takeIdeas
set_option maxRecDepth 20000 in
theorem ggX6_prepareMatching_X3_takeLinks : GoodIn wsX6_prepareMatching wsX3_takeLinks := goodIn_r _ [70, 71, 55, 66, 47, 48, 15, 49, 17, 72, 73, 74, 53, 75, 56, 76, 77, 78, 79, 80, 81, 31, 32, 9, 33, 11, 34, 19, 20, 21, 82, 83, 84, 85, 57, 58, 86, 87, 88, 89, 90, 91, 92, 93, 94, 95, 96, 97, 98, 115, 116, 117, 118, 119, 120, 121, 122, 113, 112] (by decide +kernel) (by decide +kernel)
set_option maxRecDepth 20000 in
theorem gX6_prepareMatching_X3_takeLinks : GoodIn wsX6_prepareMatching (wsV RX6 198 RX3 yX3_takeLinks wsX3_takeLinks) := goodIn_app (goodIn_of _ (by decide +kernel)) ggX6_prepareMatching_X3_takeLinks
theorem dX6_prepareMatching_0 : decode cX6_prepareMatching 0 = .ok (.aload_n 0, 1) := by decide +kernel
theorem dX6_prepareMatching_1 : decode cX6_prepareMatching 1 = .ok (.getfield 37, 3) := by decide +kernel
theorem dX6_prepareMatching_4 : decode cX6_prepareMatching 4 = .ok (.aload_n 0, 1) := by decide +kernel
theorem dX6_prepareMatching_5 : decode cX6_prepareMatching 5 = .ok (.getfield 12, 3) := by decide +kernel
theorem dX6_prepareMatching_8 : decode cX6_prepareMatching 8 = .ok (.getfield 87, 3) := by decide +kernel
theorem dX6_prepareMatching_11 : decode cX6_prepareMatching 11 = .ok (.invokevirtual 116, 3) := by decide +kernel
theorem dX6_prepareMatching_14 : decode cX6_prepareMatching 14 = .ok (.aload_n 0, 1) := by decide +kernel
theorem dX6_prepareMatching_15 : decode cX6_prepareMatching 15 = .ok (.getfield 37, 3) := by decide +kernel
theorem dX6_prepareMatching_18 : decode cX6_prepareMatching 18 = .ok (.aload_n 0, 1) := by decide +kernel
theorem dX6_prepareMatching_19 : decode cX6_prepareMatching 19 = .ok (.getfield 30, 3) := by decide +kernel
theorem dX6_prepareMatching_22 : decode cX6_prepareMatching 22 = .ok (.invokevirtual 120, 3) := by decide +kernel
theorem dX6_prepareMatching_25 : decode cX6_prepareMatching 25 = .ok (.aload_n 0, 1) := by decide +kernel
theorem dX6_prepareMatching_26 : decode cX6_prepareMatching 26 = .ok (.getfield 50, 3) := by decide +kernel
theorem dX6_prepareMatching_29 : decode cX6_prepareMatching 29 = .ok (.aload_n 0, 1) := by decide +kernel
theorem dX6_prepareMatching_30 : decode cX6_prepareMatching 30 = .ok (.getfield 12, 3) := by decide +kernel
theorem dX6_prepareMatching_33 : decode cX6_prepareMatching 33 = .ok (.aload_n 1, 1) := by decide +kernel
theorem dX6_prepareMatching_34 : decode cX6_prepareMatching 34 = .ok (.aload_n 0, 1) := by decide +kernel
theorem dX6_prepareMatching_35 : decode cX6_prepareMatching 35 = .ok (.getfield 23, 3) := by decide +kernel
theorem dX6_prepareMatching_38 : decode cX6_prepareMatching 38 = .ok (.invokevirtual 194, 3) := by decide +kernel
theorem dX6_prepareMatching_41 : decode cX6_prepareMatching 41 = .ok (.aload_n 0, 1) := by decide +kernel
theorem dX6_prepareMatching_42 : decode cX6_prepareMatching 42 = .ok (.getfield 50, 3) := by decide +kernel
theorem dX6_prepareMatching_45 : decode cX6_prepareMatching 45 = .ok (.aload_n 0, 1) := by decide +kernel
theorem dX6_prepareMatching_46 : decode cX6_prepareMatching 46 = .ok (.getfield 12, 3) := by decide +kernel
theorem dX6_prepareMatching_49 : decode cX6_prepareMatching 49 = .ok (.getfield 87, 3) := by decide +kernel
theorem dX6_prepareMatching_52 : decode cX6_prepareMatching 52 = .ok (.aload_n 0, 1) := by decide +kernel
theorem dX6_prepareMatching_53 : decode cX6_prepareMatching 53 = .ok (.getfield 37, 3) := by decide +kernel
theorem dX6_prepareMatching_56 : decode cX6_prepareMatching 56 = .ok (.aload_n 1, 1) := by decide +kernel
theorem dX6_prepareMatching_57 : decode cX6_prepareMatching 57 = .ok (.getfield 87, 3) := by decide +kernel
theorem dX6_prepareMatching_60 : decode cX6_prepareMatching 60 = .ok (.invokevirtual 198, 3) := by decide +kernel
theorem dX6_prepareMatching_63 : decode cX6_prepareMatching 63 = .ok (.return_, 1) := by decide +kernel
set_option maxRecDepth 20000 in
theorem ggX6_markOf_X2_count : GoodIn wsX6_markOf wsX2_count := goodIn_r _ [6, 7, 8, 9, 10, 11, 12, 13, 14, 15, 16, 17, 18, 19, 20, 136, 137] (by decide +kernel) (by decide +kernel)
set_option maxRecDepth 20000 in
theorem gX6_markOf_X2_count : GoodIn wsX6_markOf (wsV RX6 113 RX2 yX2_count wsX2_count) := goodIn_app (goodIn_of _ (by decide +kernel)) ggX6_markOf_X2_count
set_option maxRecDepth 20000 in
theorem ggX6_markOf_X6_prepareMatching : GoodIn wsX6_markOf wsX6_prepareMatching := goodIn_r _ [25, 26, 27, 28, 1, 29, 30, 31, 32, 5, 33, 7, 34, 35, 36, 11, 37, 13, 38, 9, 10, 12, 39, 40, 41, 42, 43, 44, 45, 46, 47, 48, 49, 50, 8, 51, 52, 53, 54, 55, 56, 57, 58, 59, 60, 61, 62, 63, 64, 65, 66, 67, 68, 69, 70, 71, 72, 73, 74, 75, 76, 77, 78, 79, 80, 81, 82, 83, 84, 85, 86, 87, 88, 89, 90, 91, 92, 93, 94, 95, 96, 97, 98, 99, 100, 101, 102, 24, 103, 104, 15, 16, 17, 18, 19, 20, 105, 106, 107, 126, 127, 128, 129, 130, 131, 132, 133, 134, 135, 123, 124, 125, 136, 137, 138, 139, 140, 141, 142, 143, 144, 145, 146, 147] (by decide +kernel) (by decide +kernel)
set_option maxRecDepth 20000 in
theorem gX6_markOf_X6_prepareMatching : GoodIn wsX6_markOf (wsV RX6 130 RX6 yX6_prepareMatching wsX6_prepareMatching) := goodIn_app (goodIn_of _ (by decide +kernel)) ggX6_markOf_X6_prepareMatching
set_option maxRecDepth 20000 in
theorem ggX6_markOf_X3_findBest : GoodIn wsX6_markOf wsX3_findBest := goodIn_r _ [111, 112, 113, 114, 69, 115, 87, 71, 116, 117, 72, 74, 9, 10, 11, 12, 13, 118, 35, 36, 37, 38, 98, 99, 100, 101, 73, 82, 63, 64, 65, 119, 120, 121, 122, 92, 105, 106, 107, 139, 140, 141, 142, 143, 144, 145, 146, 137] (by decide +kernel) (by decide +kernel)
set_option maxRecDepth 20000 in
theorem gX6_markOf_X3_findBest : GoodIn wsX6_markOf (wsV RX6 134 RX3 yX3_findBest wsX3_findBest) := goodIn_app (goodIn_of _ (by decide +kernel)) ggX6_markOf_X3_findBest
theorem dX6_markOf_0 : decode cX6_markOf 0 = .ok (.iconst 4, 1) := by decide +kernel
theorem dX6_markOf_1 : decode cX6_markOf 1 = .ok (.aload_n 1, 1) := by decide +kernel
theorem dX6_markOf_2 : decode cX6_markOf 2 = .ok (.getfield 87, 3) := by decide +kernel
theorem dX6_markOf_5 : decode cX6_markOf 5 = .ok (.invokevirtual 113, 3) := by decide +kernel
theorem dX6_markOf_8 : decode cX6_markOf 8 = .ok (.imul, 1) := by decide +kernel
theorem dX6_markOf_9 : decode cX6_markOf 9 = .ok (.istore_n 2, 1) := by decide +kernel
theorem dX6_markOf_10 : decode cX6_markOf 10 = .ok (.iload_n 2, 1) := by decide +kernel
theorem dX6_markOf_11 : decode cX6_markOf 11 = .ok (.ifCond .gt 5, 3) := by decide +kernel
theorem dX6_markOf_14 : decode cX6_markOf 14 = .ok (.iconst 0, 1) := by decide +kernel
theorem dX6_markOf_15 : decode cX6_markOf 15 = .ok (.ireturn, 1) := by decide +kernel
theorem dX6_markOf_16 : decode cX6_markOf 16 = .ok (.aload_n 0, 1) := by decide +kernel
theorem dX6_markOf_17 : decode cX6_markOf 17 = .ok (.aload_n 1, 1) := by decide +kernel
theorem dX6_markOf_18 : decode cX6_markOf 18 = .ok (.invokevirtual 130, 3) := by decide +kernel
theorem dX6_markOf_21 : decode cX6_markOf 21 = .ok (.bipush 100, 2) := by decide +kernel
theorem dX6_markOf_23 : decode cX6_markOf 23 = .ok (.aload_n 0, 1) := by decide +kernel
theorem dX6_markOf_24 : decode cX6_markOf 24 = .ok (.getfield 50, 3) := by decide +kernel
theorem dX6_markOf_27 : decode cX6_markOf 27 = .ok (.iconst (-1), 1) := by decide +kernel
theorem dX6_markOf_28 : decode cX6_markOf 28 = .ok (.invokevirtual 134, 3) := by decide +kernel
theorem dX6_markOf_31 : decode cX6_markOf 31 = .ok (.imul, 1) := by decide +kernel
theorem dX6_markOf_32 : decode cX6_markOf 32 = .ok (.iload_n 2, 1) := by decide +kernel
theorem dX6_markOf_33 : decode cX6_markOf 33 = .ok (.idiv, 1) := by decide +kernel
theorem dX6_markOf_34 : decode cX6_markOf 34 = .ok (.ireturn, 1) := by decide +kernel
set_option maxRecDepth 20000 in
theorem ggX6_findBestLink_X6_prepareMatching : GoodIn wsX6_findBestLink wsX6_prepareMatching := goodIn_r _ [11, 12, 4, 13, 1, 14, 15, 16, 17, 18, 19, 20, 21, 22, 23, 24, 25, 26, 27, 28, 29, 30, 31, 32, 33, 34, 35, 36, 37, 38, 39, 40, 41, 42, 43, 44, 45, 46, 47, 48, 49, 50, 51, 52, 53, 54, 55, 56, 57, 58, 59, 60, 61, 62, 63, 64, 65, 66, 67, 68, 69, 70, 71, 72, 73, 74, 75, 76, 77, 78, 79, 80, 81, 82, 83, 84, 85, 86, 87, 88, 89, 90, 91, 92, 93, 94, 95, 10, 96, 97, 98, 99, 100, 101, 102, 103, 104, 105, 106, 131, 132, 133, 134, 135, 136, 137, 138, 139, 140, 141, 142, 143, 144, 145, 146, 147, 148, 149, 150, 151, 152, 153, 154, 155] (by decide +kernel) (by decide +kernel)
set_option maxRecDepth 20000 in
theorem gX6_findBestLink_X6_prepareMatching : GoodIn wsX6_findBestLink (wsV RX6 130 RX6 yX6_prepareMatching wsX6_prepareMatching) := goodIn_app (goodIn_of _ (by decide +kernel)) ggX6_findBestLink_X6_prepareMatching
set_option maxRecDepth 20000 in
theorem ggX6_findBestLink_X3_findBest : GoodIn wsX6_findBestLink wsX3_findBest := goodIn_r _ [110, 111, 112, 113, 62, 114, 80, 64, 115, 116, 65, 67, 28, 29, 24, 30, 26, 117, 22, 23, 25, 27, 91, 92, 93, 94, 66, 75, 56, 57, 58, 118, 119, 120, 121, 85, 104, 105, 106, 147, 148, 149, 150, 151, 152, 153, 154, 145] (by decide +kernel) (by decide +kernel)
set_option maxRecDepth 20000 in
theorem gX6_findBestLink_X3_findBest : GoodIn wsX6_findBestLink (wsV RX6 134 RX3 yX3_findBest wsX3_findBest) := goodIn_app (goodIn_of _ (by decide +kernel)) ggX6_findBestLink_X3_findBest
set_option maxRecDepth 20000 in
theorem ggX6_findBestLink_X2_contains : GoodIn wsX6_findBestLink wsX2_contains := goodIn_r _ [125, 39, 40, 41, 18, 42, 20, 43, 28, 29, 24, 30, 26, 144, 145] (by decide +kernel) (by decide +kernel)
set_option maxRecDepth 20000 in
theorem gX6_findBestLink_X2_contains : GoodIn wsX6_findBestLink (wsV RX6 124 RX2 yX2_contains wsX2_contains) := goodIn_app (goodIn_of _ (by decide +kernel)) ggX6_findBestLink_X2_contains
set_option maxRecDepth 20000 in
theorem ggX6_findBestLink_X6_takeTrialLink : GoodIn wsX6_findBestLink wsX6_takeTrialLink := goodIn_r _ [129, 5, 4, 6, 12, 13, 15, 16, 17, 18, 19, 20, 21, 22, 23, 24, 25, 26, 27, 28, 29, 30, 130, 52, 53, 54, 39, 40, 41, 42, 43, 55, 56, 57, 58, 31, 32, 33, 34, 35, 36, 37, 38, 44, 45, 46, 47, 48, 49, 50, 51, 131, 132, 133, 134, 135, 136, 137, 138, 139, 140, 141, 142, 143, 144, 145, 146] (by decide +kernel) (by decide +kernel)
set_option maxRecDepth 20000 in
theorem gX6_findBestLink_X6_takeTrialLink : GoodIn wsX6_findBestLink (wsV RX6 202 RX6 yX6_takeTrialLink wsX6_takeTrialLink) := goodIn_app (goodIn_of _ (by decide +kernel)) ggX6_findBestLink_X6_takeTrialLink
set_option maxRecDepth 20000 in
theorem ggX6_findBestLink_X3_takeLinks : GoodIn wsX6_findBestLink wsX3_takeLinks := goodIn_r _ [79, 80, 64, 75, 56, 57, 24, 58, 26, 81, 82, 83, 62, 84, 65, 85, 86, 87, 88, 89, 90, 40, 41, 18, 42, 20, 43, 28, 29, 30, 91, 92, 93, 94, 66, 67, 95, 10, 96, 97, 98, 99, 100, 101, 102, 103, 104, 105, 106, 147, 148, 149, 150, 151, 152, 153, 154, 145, 144] (by decide +kernel) (by decide +kernel)
set_option maxRecDepth 20000 in
theorem gX6_findBestLink_X3_takeLinks : GoodIn wsX6_findBestLink (wsV RX6 198 RX3 yX3_takeLinks wsX3_takeLinks) := goodIn_app (goodIn_of _ (by decide +kernel)) ggX6_findBestLink_X3_takeLinks
theorem dX6_findBestLink_0 : decode cX6_findBestLink 0 = .ok (.aload_n 0, 1) := by decide +kernel
theorem dX6_findBestLink_1 : decode cX6_findBestLink 1 = .ok (.aload_n 1, 1) := by decide +kernel
theorem dX6_findBestLink_2 : decode cX6_findBestLink 2 = .ok (.invokevirtual 130, 3) := by decide +kernel
theorem dX6_findBestLink_5 : decode cX6_findBestLink 5 = .ok (.aload_n 0, 1) := by decide +kernel
theorem dX6_findBestLink_6 : decode cX6_findBestLink 6 = .ok (.getfield 50, 3) := by decide +kernel
theorem dX6_findBestLink_9 : decode cX6_findBestLink 9 = .ok (.iconst (-1), 1) := by decide +kernel
theorem dX6_findBestLink_10 : decode cX6_findBestLink 10 = .ok (.invokevirtual 134, 3) := by decide +kernel
theorem dX6_findBestLink_13 : decode cX6_findBestLink 13 = .ok (.istore_n 2, 1) := by decide +kernel
theorem dX6_findBestLink_14 : decode cX6_findBestLink 14 = .ok (.aload_n 0, 1) := by decide +kernel
theorem dX6_findBestLink_15 : decode cX6_findBestLink 15 = .ok (.iconst (-1), 1) := by decide +kernel
theorem dX6_findBestLink_16 : decode cX6_findBestLink 16 = .ok (.putfield 54, 3) := by decide +kernel
theorem dX6_findBestLink_19 : decode cX6_findBestLink 19 = .ok (.aload_n 0, 1) := by decide +kernel
theorem dX6_findBestLink_20 : decode cX6_findBestLink 20 = .ok (.iconst 0, 1) := by decide +kernel
theorem dX6_findBestLink_21 : decode cX6_findBestLink 21 = .ok (.putfield 58, 3) := by decide +kernel
theorem dX6_findBestLink_24 : decode cX6_findBestLink 24 = .ok (.iconst 0, 1) := by decide +kernel
theorem dX6_findBestLink_25 : decode cX6_findBestLink 25 = .ok (.istore_n 3, 1) := by decide +kernel
theorem dX6_findBestLink_26 : decode cX6_findBestLink 26 = .ok (.iload_n 3, 1) := by decide +kernel
theorem dX6_findBestLink_27 : decode cX6_findBestLink 27 = .ok (.aload_n 0, 1) := by decide +kernel
theorem dX6_findBestLink_28 : decode cX6_findBestLink 28 = .ok (.getfield 12, 3) := by decide +kernel
theorem dX6_findBestLink_31 : decode cX6_findBestLink 31 = .ok (.getfield 69, 3) := by decide +kernel
theorem dX6_findBestLink_34 : decode cX6_findBestLink 34 = .ok (.if_icmp .ge 146, 3) := by decide +kernel
theorem dX6_findBestLink_37 : decode cX6_findBestLink 37 = .ok (.iconst 0, 1) := by decide +kernel
theorem dX6_findBestLink_38 : decode cX6_findBestLink 38 = .ok (.istore 4, 2) := by decide +kernel
theorem dX6_findBestLink_40 : decode cX6_findBestLink 40 = .ok (.iload 4, 2) := by decide +kernel
theorem dX6_findBestLink_42 : decode cX6_findBestLink 42 = .ok (.aload_n 0, 1) := by decide +kernel
theorem dX6_findBestLink_43 : decode cX6_findBestLink 43 = .ok (.getfield 12, 3) := by decide +kernel
theorem dX6_findBestLink_46 : decode cX6_findBestLink 46 = .ok (.getfield 69, 3) := by decide +kernel
theorem dX6_findBestLink_49 : decode cX6_findBestLink 49 = .ok (.if_icmp .ge 125, 3) := by decide +kernel
theorem dX6_findBestLink_52 : decode cX6_findBestLink 52 = .ok (.iconst 0, 1) := by decide +kernel
theorem dX6_findBestLink_53 : decode cX6_findBestLink 53 = .ok (.istore 5, 2) := by decide +kernel
theorem dX6_findBestLink_55 : decode cX6_findBestLink 55 = .ok (.iload 5, 2) := by decide +kernel
theorem dX6_findBestLink_57 : decode cX6_findBestLink 57 = .ok (.iconst 4, 1) := by decide +kernel
theorem dX6_findBestLink_58 : decode cX6_findBestLink 58 = .ok (.if_icmp .ge 110, 3) := by decide +kernel
theorem dX6_findBestLink_61 : decode cX6_findBestLink 61 = .ok (.iload_n 3, 1) := by decide +kernel
theorem dX6_findBestLink_62 : decode cX6_findBestLink 62 = .ok (.iload 4, 2) := by decide +kernel
theorem dX6_findBestLink_64 : decode cX6_findBestLink 64 = .ok (.if_icmp .eq 98, 3) := by decide +kernel
theorem dX6_findBestLink_67 : decode cX6_findBestLink 67 = .ok (.aload_n 0, 1) := by decide +kernel
theorem dX6_findBestLink_68 : decode cX6_findBestLink 68 = .ok (.getfield 12, 3) := by decide +kernel
theorem dX6_findBestLink_71 : decode cX6_findBestLink 71 = .ok (.getfield 87, 3) := by decide +kernel
theorem dX6_findBestLink_74 : decode cX6_findBestLink 74 = .ok (.iload_n 3, 1) := by decide +kernel
theorem dX6_findBestLink_75 : decode cX6_findBestLink 75 = .ok (.iload 4, 2) := by decide +kernel
theorem dX6_findBestLink_77 : decode cX6_findBestLink 77 = .ok (.iload 5, 2) := by decide +kernel
theorem dX6_findBestLink_79 : decode cX6_findBestLink 79 = .ok (.invokevirtual 124, 3) := by decide +kernel
theorem dX6_findBestLink_82 : decode cX6_findBestLink 82 = .ok (.ifCond .ne 80, 3) := by decide +kernel
theorem dX6_findBestLink_85 : decode cX6_findBestLink 85 = .ok (.aload_n 0, 1) := by decide +kernel
theorem dX6_findBestLink_86 : decode cX6_findBestLink 86 = .ok (.iload_n 3, 1) := by decide +kernel
theorem dX6_findBestLink_87 : decode cX6_findBestLink 87 = .ok (.iload 4, 2) := by decide +kernel
theorem dX6_findBestLink_89 : decode cX6_findBestLink 89 = .ok (.iload 5, 2) := by decide +kernel
theorem dX6_findBestLink_91 : decode cX6_findBestLink 91 = .ok (.invokevirtual 202, 3) := by decide +kernel
theorem dX6_findBestLink_94 : decode cX6_findBestLink 94 = .ok (.aload_n 0, 1) := by decide +kernel
theorem dX6_findBestLink_95 : decode cX6_findBestLink 95 = .ok (.getfield 50, 3) := by decide +kernel
theorem dX6_findBestLink_98 : decode cX6_findBestLink 98 = .ok (.aload_n 0, 1) := by decide +kernel
theorem dX6_findBestLink_99 : decode cX6_findBestLink 99 = .ok (.getfield 41, 3) := by decide +kernel
theorem dX6_findBestLink_102 : decode cX6_findBestLink 102 = .ok (.aload_n 0, 1) := by decide +kernel
theorem dX6_findBestLink_103 : decode cX6_findBestLink 103 = .ok (.getfield 44, 3) := by decide +kernel
theorem dX6_findBestLink_106 : decode cX6_findBestLink 106 = .ok (.aload_n 1, 1) := by decide +kernel
theorem dX6_findBestLink_107 : decode cX6_findBestLink 107 = .ok (.getfield 87, 3) := by decide +kernel
theorem dX6_findBestLink_110 : decode cX6_findBestLink 110 = .ok (.invokevirtual 198, 3) := by decide +kernel
theorem dX6_findBestLink_113 : decode cX6_findBestLink 113 = .ok (.aload_n 0, 1) := by decide +kernel
theorem dX6_findBestLink_114 : decode cX6_findBestLink 114 = .ok (.getfield 50, 3) := by decide +kernel
theorem dX6_findBestLink_117 : decode cX6_findBestLink 117 = .ok (.iload_n 2, 1) := by decide +kernel
theorem dX6_findBestLink_118 : decode cX6_findBestLink 118 = .ok (.aload_n 0, 1) := by decide +kernel
theorem dX6_findBestLink_119 : decode cX6_findBestLink 119 = .ok (.getfield 58, 3) := by decide +kernel
theorem dX6_findBestLink_122 : decode cX6_findBestLink 122 = .ok (.iadd, 1) := by decide +kernel
theorem dX6_findBestLink_123 : decode cX6_findBestLink 123 = .ok (.invokevirtual 134, 3) := by decide +kernel
theorem dX6_findBestLink_126 : decode cX6_findBestLink 126 = .ok (.iload_n 2, 1) := by decide +kernel
theorem dX6_findBestLink_127 : decode cX6_findBestLink 127 = .ok (.isub, 1) := by decide +kernel
theorem dX6_findBestLink_128 : decode cX6_findBestLink 128 = .ok (.istore 6, 2) := by decide +kernel
theorem dX6_findBestLink_130 : decode cX6_findBestLink 130 = .ok (.iload 6, 2) := by decide +kernel
theorem dX6_findBestLink_132 : decode cX6_findBestLink 132 = .ok (.aload_n 0, 1) := by decide +kernel
theorem dX6_findBestLink_133 : decode cX6_findBestLink 133 = .ok (.getfield 58, 3) := by decide +kernel
theorem dX6_findBestLink_136 : decode cX6_findBestLink 136 = .ok (.if_icmp .le 26, 3) := by decide +kernel
theorem dX6_findBestLink_139 : decode cX6_findBestLink 139 = .ok (.aload_n 0, 1) := by decide +kernel
theorem dX6_findBestLink_140 : decode cX6_findBestLink 140 = .ok (.iload 6, 2) := by decide +kernel
theorem dX6_findBestLink_142 : decode cX6_findBestLink 142 = .ok (.putfield 58, 3) := by decide +kernel
theorem dX6_findBestLink_145 : decode cX6_findBestLink 145 = .ok (.aload_n 0, 1) := by decide +kernel
theorem dX6_findBestLink_146 : decode cX6_findBestLink 146 = .ok (.bipush 100, 2) := by decide +kernel
theorem dX6_findBestLink_148 : decode cX6_findBestLink 148 = .ok (.iload_n 3, 1) := by decide +kernel
theorem dX6_findBestLink_149 : decode cX6_findBestLink 149 = .ok (.imul, 1) := by decide +kernel
theorem dX6_findBestLink_150 : decode cX6_findBestLink 150 = .ok (.bipush 10, 2) := by decide +kernel
theorem dX6_findBestLink_152 : decode cX6_findBestLink 152 = .ok (.iload 4, 2) := by decide +kernel
theorem dX6_findBestLink_154 : decode cX6_findBestLink 154 = .ok (.imul, 1) := by decide +kernel
theorem dX6_findBestLink_155 : decode cX6_findBestLink 155 = .ok (.iadd, 1) := by decide +kernel
theorem dX6_findBestLink_156 : decode cX6_findBestLink 156 = .ok (.iload 5, 2) := by decide +kernel
theorem dX6_findBestLink_158 : decode cX6_findBestLink 158 = .ok (.iadd, 1) := by decide +kernel
theorem dX6_findBestLink_159 : decode cX6_findBestLink 159 = .ok (.putfield 54, 3) := by decide +kernel
theorem dX6_findBestLink_162 : decode cX6_findBestLink 162 = .ok (.iinc 5 1, 3) := by decide +kernel
theorem dX6_findBestLink_165 : decode cX6_findBestLink 165 = .ok (.goto (-110), 3) := by decide +kernel
theorem dX6_findBestLink_168 : decode cX6_findBestLink 168 = .ok (.iinc 4 1, 3) := by decide +kernel
theorem dX6_findBestLink_171 : decode cX6_findBestLink 171 = .ok (.goto (-131), 3) := by decide +kernel
theorem dX6_findBestLink_174 : decode cX6_findBestLink 174 = .ok (.iinc 3 1, 3) := by decide +kernel
theorem dX6_findBestLink_177 : decode cX6_findBestLink 177 = .ok (.goto (-151), 3) := by decide +kernel
theorem dX6_findBestLink_180 : decode cX6_findBestLink 180 = .ok (.return_, 1) := by decide +kernel
set_option maxRecDepth 20000 in
theorem ggX6_takeTrialLink_X2_become : GoodIn wsX6_takeTrialLink wsX2_become := goodIn_r _ [10, 11, 12, 13, 14, 15, 16, 17, 18, 19, 20, 21, 64, 65] (by decide +kernel) (by decide +kernel)
set_option maxRecDepth 20000 in
theorem gX6_takeTrialLink_X2_become : GoodIn wsX6_takeTrialLink (wsV RX6 116 RX2 yX2_become wsX2_become) := goodIn_app (goodIn_of _ (by decide +kernel)) ggX6_takeTrialLink_X2_become
set_option maxRecDepth 20000 in
theorem ggX6_takeTrialLink_X2_add : GoodIn wsX6_takeTrialLink wsX2_add := goodIn_r _ [25, 11, 26, 27, 28, 9, 29, 30, 19, 20, 15, 21, 17, 31, 32, 33, 34, 64, 65] (by decide +kernel) (by decide +kernel)
set_option maxRecDepth 20000 in
theorem gX6_takeTrialLink_X2_add : GoodIn wsX6_takeTrialLink (wsV RX6 206 RX2 yX2_add wsX2_add) := goodIn_app (goodIn_of _ (by decide +kernel)) ggX6_takeTrialLink_X2_add
set_option maxRecDepth 20000 in
theorem ggX6_takeTrialLink_X2_addAllImplied : GoodIn wsX6_takeTrialLink wsX2_addAllImplied := goodIn_r _ [38, 39, 40, 41, 9, 42, 26, 27, 28, 29, 11, 30, 19, 20, 15, 21, 17, 43, 44, 45, 46, 47, 48, 49, 50, 23, 24, 25, 31, 32, 33, 34, 64, 65, 66] (by decide +kernel) (by decide +kernel)
set_option maxRecDepth 20000 in
theorem gX6_takeTrialLink_X2_addAllImplied : GoodIn wsX6_takeTrialLink (wsV RX6 120 RX2 yX2_addAllImplied wsX2_addAllImplied) := goodIn_app (goodIn_of _ (by decide +kernel)) ggX6_takeTrialLink_X2_addAllImplied
theorem dX6_takeTrialLink_0 : decode cX6_takeTrialLink 0 = .ok (.aload_n 0, 1) := by decide +kernel
theorem dX6_takeTrialLink_1 : decode cX6_takeTrialLink 1 = .ok (.getfield 41, 3) := by decide +kernel
theorem dX6_takeTrialLink_4 : decode cX6_takeTrialLink 4 = .ok (.aload_n 0, 1) := by decide +kernel
theorem dX6_takeTrialLink_5 : decode cX6_takeTrialLink 5 = .ok (.getfield 12, 3) := by decide +kernel
theorem dX6_takeTrialLink_8 : decode cX6_takeTrialLink 8 = .ok (.getfield 87, 3) := by decide +kernel
theorem dX6_takeTrialLink_11 : decode cX6_takeTrialLink 11 = .ok (.invokevirtual 116, 3) := by decide +kernel
theorem dX6_takeTrialLink_14 : decode cX6_takeTrialLink 14 = .ok (.aload_n 0, 1) := by decide +kernel
theorem dX6_takeTrialLink_15 : decode cX6_takeTrialLink 15 = .ok (.getfield 41, 3) := by decide +kernel
theorem dX6_takeTrialLink_18 : decode cX6_takeTrialLink 18 = .ok (.iload_n 1, 1) := by decide +kernel
theorem dX6_takeTrialLink_19 : decode cX6_takeTrialLink 19 = .ok (.iload_n 2, 1) := by decide +kernel
theorem dX6_takeTrialLink_20 : decode cX6_takeTrialLink 20 = .ok (.iconst 1, 1) := by decide +kernel
theorem dX6_takeTrialLink_21 : decode cX6_takeTrialLink 21 = .ok (.iload_n 3, 1) := by decide +kernel
theorem dX6_takeTrialLink_22 : decode cX6_takeTrialLink 22 = .ok (.ishl, 1) := by decide +kernel
theorem dX6_takeTrialLink_23 : decode cX6_takeTrialLink 23 = .ok (.invokevirtual 206, 3) := by decide +kernel
theorem dX6_takeTrialLink_26 : decode cX6_takeTrialLink 26 = .ok (.pop, 1) := by decide +kernel
theorem dX6_takeTrialLink_27 : decode cX6_takeTrialLink 27 = .ok (.aload_n 0, 1) := by decide +kernel
theorem dX6_takeTrialLink_28 : decode cX6_takeTrialLink 28 = .ok (.getfield 44, 3) := by decide +kernel
theorem dX6_takeTrialLink_31 : decode cX6_takeTrialLink 31 = .ok (.aload_n 0, 1) := by decide +kernel
theorem dX6_takeTrialLink_32 : decode cX6_takeTrialLink 32 = .ok (.getfield 37, 3) := by decide +kernel
theorem dX6_takeTrialLink_35 : decode cX6_takeTrialLink 35 = .ok (.invokevirtual 116, 3) := by decide +kernel
theorem dX6_takeTrialLink_38 : decode cX6_takeTrialLink 38 = .ok (.aload_n 0, 1) := by decide +kernel
theorem dX6_takeTrialLink_39 : decode cX6_takeTrialLink 39 = .ok (.getfield 44, 3) := by decide +kernel
theorem dX6_takeTrialLink_42 : decode cX6_takeTrialLink 42 = .ok (.iload_n 1, 1) := by decide +kernel
theorem dX6_takeTrialLink_43 : decode cX6_takeTrialLink 43 = .ok (.iload_n 2, 1) := by decide +kernel
theorem dX6_takeTrialLink_44 : decode cX6_takeTrialLink 44 = .ok (.iconst 1, 1) := by decide +kernel
theorem dX6_takeTrialLink_45 : decode cX6_takeTrialLink 45 = .ok (.iload_n 3, 1) := by decide +kernel
theorem dX6_takeTrialLink_46 : decode cX6_takeTrialLink 46 = .ok (.ishl, 1) := by decide +kernel
theorem dX6_takeTrialLink_47 : decode cX6_takeTrialLink 47 = .ok (.invokevirtual 206, 3) := by decide +kernel
theorem dX6_takeTrialLink_50 : decode cX6_takeTrialLink 50 = .ok (.pop, 1) := by decide +kernel
theorem dX6_takeTrialLink_51 : decode cX6_takeTrialLink 51 = .ok (.aload_n 0, 1) := by decide +kernel
theorem dX6_takeTrialLink_52 : decode cX6_takeTrialLink 52 = .ok (.getfield 44, 3) := by decide +kernel
theorem dX6_takeTrialLink_55 : decode cX6_takeTrialLink 55 = .ok (.aload_n 0, 1) := by decide +kernel
theorem dX6_takeTrialLink_56 : decode cX6_takeTrialLink 56 = .ok (.getfield 30, 3) := by decide +kernel
