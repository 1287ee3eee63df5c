theorem dL_clear_7 : decode cL_clear 7 = .ok (.i2l, 1) := by decide +kernel
theorem dL_clear_8 : decode cL_clear 8 = .ok (.lastore, 1) := by decide +kernel
theorem dL_clear_9 : decode cL_clear 9 = .ok (.goto 6, 3) := by decide +kernel
theorem dL_clear_12 : decode cL_clear 12 = .ok (.astore_n 3, 1) := by decide +kernel
theorem dL_clear_13 : decode cL_clear 13 = .ok (.iconst 1, 1) := by decide +kernel
theorem dL_clear_14 : decode cL_clear 14 = .ok (.ireturn, 1) := by decide +kernel
theorem dL_clear_15 : decode cL_clear 15 = .ok (.iconst 0, 1) := by decide +kernel
theorem dL_clear_16 : decode cL_clear 16 = .ok (.ireturn, 1) := by decide +kernel
set_option maxRecDepth 20000 in
theorem ggL_synonyms_X6_synonyms : GoodIn wsL_synonyms wsX6_synonyms := goodIn_ca (goodIn_r _ [6, 7, 8, 9, 5, 10, 11, 12, 13, 14, 15, 16, 17, 18, 19, 20, 21, 22, 23, 24, 25, 26, 27, 28, 29, 30, 31, 32, 33, 34, 35, 36, 37, 38, 39, 40, 41, 42, 43, 44] (by decide +kernel) (by decide +kernel)) (goodIn_sub (fun _ h => List.mem_cons_of_mem _ (List.mem_append_right _ h)) (by decide +kernel))
set_option maxRecDepth 20000 in
theorem gL_synonyms_X6_synonyms : GoodIn wsL_synonyms (wsV RL 27 RX6 yX6_synonyms wsX6_synonyms) := goodIn_app (goodIn_of _ (by decide +kernel)) ggL_synonyms_X6_synonyms
theorem dL_synonyms_0 : decode cL_synonyms 0 = .ok (.aload_n 3, 1) := by decide +kernel
theorem dL_synonyms_1 : decode cL_synonyms 1 = .ok (.iconst 0, 1) := by decide +kernel
theorem dL_synonyms_2 : decode cL_synonyms 2 = .ok (.aload_n 0, 1) := by decide +kernel
theorem dL_synonyms_3 : decode cL_synonyms 3 = .ok (.iload_n 1, 1) := by decide +kernel
theorem dL_synonyms_4 : decode cL_synonyms 4 = .ok (.iload_n 2, 1) := by decide +kernel
theorem dL_synonyms_5 : decode cL_synonyms 5 = .ok (.invokevirtual 27, 3) := by decide +kernel
theorem dL_synonyms_8 : decode cL_synonyms 8 = .ok (.ifCond .eq 7, 3) := by decide +kernel
theorem dL_synonyms_11 : decode cL_synonyms 11 = .ok (.lconst 1, 1) := by decide +kernel
theorem dL_synonyms_12 : decode cL_synonyms 12 = .ok (.goto 4, 3) := by decide +kernel
theorem dL_synonyms_15 : decode cL_synonyms 15 = .ok (.lconst 0, 1) := by decide +kernel
theorem dL_synonyms_16 : decode cL_synonyms 16 = .ok (.lastore, 1) := by decide +kernel
theorem dL_synonyms_17 : decode cL_synonyms 17 = .ok (.goto 7, 3) := by decide +kernel
theorem dL_synonyms_20 : decode cL_synonyms 20 = .ok (.astore 4, 2) := by decide +kernel
theorem dL_synonyms_22 : decode cL_synonyms 22 = .ok (.iconst 1, 1) := by decide +kernel
theorem dL_synonyms_23 : decode cL_synonyms 23 = .ok (.ireturn, 1) := by decide +kernel
theorem dL_synonyms_24 : decode cL_synonyms 24 = .ok (.iconst 0, 1) := by decide +kernel
theorem dL_synonyms_25 : decode cL_synonyms 25 = .ok (.ireturn, 1) := by decide +kernel
set_option maxRecDepth 20000 in
theorem ggL_chain_X6_chain : GoodIn wsL_chain wsX6_chain := goodIn_ca (goodIn_r _ [6, 7, 8, 9, 5, 10, 11, 12, 13, 14, 15, 16, 17, 18, 19, 20, 21, 22, 23, 24, 25, 26, 27, 28, 29, 30, 31, 32, 33, 34, 35, 36, 37, 38, 39, 40] (by decide +kernel) (by decide +kernel)) (goodIn_sub (fun _ h => List.mem_cons_of_mem _ (List.mem_append_right _ h)) (by decide +kernel))
set_option maxRecDepth 20000 in
theorem gL_chain_X6_chain : GoodIn wsL_chain (wsV RL 31 RX6 yX6_chain wsX6_chain) := goodIn_app (goodIn_of _ (by decide +kernel)) ggL_chain_X6_chain
theorem dL_chain_0 : decode cL_chain 0 = .ok (.aload 4, 2) := by decide +kernel
theorem dL_chain_2 : decode cL_chain 2 = .ok (.iconst 0, 1) := by decide +kernel
theorem dL_chain_3 : decode cL_chain 3 = .ok (.aload_n 0, 1) := by decide +kernel
theorem dL_chain_4 : decode cL_chain 4 = .ok (.iload_n 1, 1) := by decide +kernel
theorem dL_chain_5 : decode cL_chain 5 = .ok (.iload_n 2, 1) := by decide +kernel
theorem dL_chain_6 : decode cL_chain 6 = .ok (.iload_n 3, 1) := by decide +kernel
theorem dL_chain_7 : decode cL_chain 7 = .ok (.invokevirtual 31, 3) := by decide +kernel
theorem dL_chain_10 : decode cL_chain 10 = .ok (.i2l, 1) := by decide +kernel
theorem dL_chain_11 : decode cL_chain 11 = .ok (.lastore, 1) := by decide +kernel
theorem dL_chain_12 : decode cL_chain 12 = .ok (.goto 7, 3) := by decide +kernel
theorem dL_chain_15 : decode cL_chain 15 = .ok (.astore 5, 2) := by decide +kernel
theorem dL_chain_17 : decode cL_chain 17 = .ok (.iconst 1, 1) := by decide +kernel
theorem dL_chain_18 : decode cL_chain 18 = .ok (.ireturn, 1) := by decide +kernel
theorem dL_chain_19 : decode cL_chain 19 = .ok (.iconst 0, 1) := by decide +kernel
theorem dL_chain_20 : decode cL_chain 20 = .ok (.ireturn, 1) := by decide +kernel
set_option maxRecDepth 20000 in
theorem ggL_ideas_X6_ideas : GoodIn wsL_ideas wsX6_ideas := goodIn_ca (goodIn_r _ [6, 7, 8, 9, 5, 10, 11, 12, 13, 14, 15, 16, 17, 18, 19, 20, 21, 22, 23, 24, 25, 26] (by decide +kernel) (by decide +kernel)) (goodIn_sub (fun _ h => List.mem_cons_of_mem _ (List.mem_append_right _ h)) (by decide +kernel))
set_option maxRecDepth 20000 in
theorem gL_ideas_X6_ideas : GoodIn wsL_ideas (wsV RL 35 RX6 yX6_ideas wsX6_ideas) := goodIn_app (goodIn_of _ (by decide +kernel)) ggL_ideas_X6_ideas
theorem dL_ideas_0 : decode cL_ideas 0 = .ok (.aload_n 2, 1) := by decide +kernel
theorem dL_ideas_1 : decode cL_ideas 1 = .ok (.iconst 0, 1) := by decide +kernel
theorem dL_ideas_2 : decode cL_ideas 2 = .ok (.aload_n 0, 1) := by decide +kernel
theorem dL_ideas_3 : decode cL_ideas 3 = .ok (.iload_n 1, 1) := by decide +kernel
theorem dL_ideas_4 : decode cL_ideas 4 = .ok (.invokevirtual 35, 3) := by decide +kernel
theorem dL_ideas_7 : decode cL_ideas 7 = .ok (.i2l, 1) := by decide +kernel
theorem dL_ideas_8 : decode cL_ideas 8 = .ok (.lastore, 1) := by decide +kernel
theorem dL_ideas_9 : decode cL_ideas 9 = .ok (.goto 6, 3) := by decide +kernel
theorem dL_ideas_12 : decode cL_ideas 12 = .ok (.astore_n 3, 1) := by decide +kernel
theorem dL_ideas_13 : decode cL_ideas 13 = .ok (.iconst 1, 1) := by decide +kernel
theorem dL_ideas_14 : decode cL_ideas 14 = .ok (.ireturn, 1) := by decide +kernel
theorem dL_ideas_15 : decode cL_ideas 15 = .ok (.iconst 0, 1) := by decide +kernel
theorem dL_ideas_16 : decode cL_ideas 16 = .ok (.ireturn, 1) := by decide +kernel
set_option maxRecDepth 20000 in
theorem ggL_links_X6_links : GoodIn wsL_links wsX6_links := goodIn_ca (goodIn_r _ [6, 7, 8, 9, 5, 10, 11, 12, 13, 14, 15, 16, 17, 18, 19, 20, 21, 22, 23, 24, 25, 26, 27, 28, 29, 30, 31, 32, 33, 34, 35, 36, 37, 38, 39, 40, 41, 42, 43, 44, 45, 46, 47] (by decide +kernel) (by decide +kernel)) (goodIn_sub (fun _ h => List.mem_cons_of_mem _ (List.mem_append_right _ h)) (by decide +kernel))
set_option maxRecDepth 20000 in
theorem gL_links_X6_links : GoodIn wsL_links (wsV RL 38 RX6 yX6_links wsX6_links) := goodIn_app (goodIn_of _ (by decide +kernel)) ggL_links_X6_links
theorem dL_links_0 : decode cL_links 0 = .ok (.aload_n 2, 1) := by decide +kernel
theorem dL_links_1 : decode cL_links 1 = .ok (.iconst 0, 1) := by decide +kernel
theorem dL_links_2 : decode cL_links 2 = .ok (.aload_n 0, 1) := by decide +kernel
theorem dL_links_3 : decode cL_links 3 = .ok (.iload_n 1, 1) := by decide +kernel
theorem dL_links_4 : decode cL_links 4 = .ok (.invokevirtual 38, 3) := by decide +kernel
theorem dL_links_7 : decode cL_links 7 = .ok (.i2l, 1) := by decide +kernel
theorem dL_links_8 : decode cL_links 8 = .ok (.lastore, 1) := by decide +kernel
theorem dL_links_9 : decode cL_links 9 = .ok (.goto 6, 3) := by decide +kernel
theorem dL_links_12 : decode cL_links 12 = .ok (.astore_n 3, 1) := by decide +kernel
theorem dL_links_13 : decode cL_links 13 = .ok (.iconst 1, 1) := by decide +kernel
theorem dL_links_14 : decode cL_links 14 = .ok (.ireturn, 1) := by decide +kernel
theorem dL_links_15 : decode cL_links 15 = .ok (.iconst 0, 1) := by decide +kernel
theorem dL_links_16 : decode cL_links 16 = .ok (.ireturn, 1) := by decide +kernel
set_option maxRecDepth 20000 in
theorem ggL_held_X6_held : GoodIn wsL_held wsX6_held := goodIn_ca (goodIn_r _ [6, 7, 8, 9, 10, 11, 5, 12, 13, 14, 15, 16, 17, 18, 19, 20, 21, 22, 23, 24, 25, 26, 27, 28, 29, 30, 31, 32, 33, 34, 35, 36, 37, 38, 39, 40, 41, 42, 43, 44, 45, 46, 47, 48, 49, 50, 51, 52, 53, 54, 55, 56, 57, 58, 59, 60, 61, 62, 63, 64, 65, 66, 67, 68, 69, 70, 71, 72, 73, 74, 75, 76, 77, 78, 79, 80, 81, 82, 83, 84, 85, 86] (by decide +kernel) (by decide +kernel)) (goodIn_sub (fun _ h => List.mem_cons_of_mem _ (List.mem_append_right _ h)) (by decide +kernel))
set_option maxRecDepth 20000 in
theorem gL_held_X6_held : GoodIn wsL_held (wsV RL 41 RX6 yX6_held wsX6_held) := goodIn_app (goodIn_of _ (by decide +kernel)) ggL_held_X6_held
theorem dL_held_0 : decode cL_held 0 = .ok (.aload_n 2, 1) := by decide +kernel
theorem dL_held_1 : decode cL_held 1 = .ok (.iconst 0, 1) := by decide +kernel
theorem dL_held_2 : decode cL_held 2 = .ok (.aload_n 0, 1) := by decide +kernel
theorem dL_held_3 : decode cL_held 3 = .ok (.iload_n 1, 1) := by decide +kernel
theorem dL_held_4 : decode cL_held 4 = .ok (.invokevirtual 41, 3) := by decide +kernel
theorem dL_held_7 : decode cL_held 7 = .ok (.i2l, 1) := by decide +kernel
theorem dL_held_8 : decode cL_held 8 = .ok (.lastore, 1) := by decide +kernel
theorem dL_held_9 : decode cL_held 9 = .ok (.goto 6, 3) := by decide +kernel
theorem dL_held_12 : decode cL_held 12 = .ok (.astore_n 3, 1) := by decide +kernel
theorem dL_held_13 : decode cL_held 13 = .ok (.iconst 1, 1) := by decide +kernel
theorem dL_held_14 : decode cL_held 14 = .ok (.ireturn, 1) := by decide +kernel
theorem dL_held_15 : decode cL_held 15 = .ok (.iconst 0, 1) := by decide +kernel
theorem dL_held_16 : decode cL_held 16 = .ok (.ireturn, 1) := by decide +kernel
set_option maxRecDepth 20000 in
theorem ggL_holds_X6_holds : GoodIn wsL_holds wsX6_holds := goodIn_ca (goodIn_ca (goodIn_r _ [7, 8, 9, 10, 11, 12, 6, 13, 14, 15, 16, 17, 18, 19, 20, 21, 22, 23, 24, 25, 26, 27, 28, 29, 30, 31, 32, 33, 34, 35, 36, 37, 38, 39, 40, 41, 42, 43, 44, 45, 46, 47, 48, 49, 50, 51, 52, 53, 54, 55, 56, 57, 58, 59, 60, 61, 62, 63, 64, 65, 66, 67, 68, 69, 70, 71, 72, 73, 74, 75, 76, 77, 78, 79, 80, 81, 82, 83, 84, 85, 86, 87, 88, 89, 90, 91] (by decide +kernel) (by decide +kernel)) (goodIn_sub (fun _ h => List.mem_cons_of_mem _ (List.mem_append_left _ (List.mem_append_right _ h))) (by decide +kernel))) (goodIn_sub (fun _ h => List.mem_cons_of_mem _ (List.mem_append_right _ h)) (by decide +kernel))
set_option maxRecDepth 20000 in
theorem gL_holds_X6_holds : GoodIn wsL_holds (wsV RL 44 RX6 yX6_holds wsX6_holds) := goodIn_app (goodIn_of _ (by decide +kernel)) ggL_holds_X6_holds
theorem dL_holds_0 : decode cL_holds 0 = .ok (.aload 5, 2) := by decide +kernel
theorem dL_holds_2 : decode cL_holds 2 = .ok (.iconst 0, 1) := by decide +kernel
theorem dL_holds_3 : decode cL_holds 3 = .ok (.aload_n 0, 1) := by decide +kernel
theorem dL_holds_4 : decode cL_holds 4 = .ok (.iload_n 1, 1) := by decide +kernel
theorem dL_holds_5 : decode cL_holds 5 = .ok (.iload_n 2, 1) := by decide +kernel
theorem dL_holds_6 : decode cL_holds 6 = .ok (.iload_n 3, 1) := by decide +kernel
theorem dL_holds_7 : decode cL_holds 7 = .ok (.iload 4, 2) := by decide +kernel
theorem dL_holds_9 : decode cL_holds 9 = .ok (.invokevirtual 44, 3) := by decide +kernel
theorem dL_holds_12 : decode cL_holds 12 = .ok (.ifCond .eq 7, 3) := by decide +kernel
theorem dL_holds_15 : decode cL_holds 15 = .ok (.lconst 1, 1) := by decide +kernel
theorem dL_holds_16 : decode cL_holds 16 = .ok (.goto 4, 3) := by decide +kernel
theorem dL_holds_19 : decode cL_holds 19 = .ok (.lconst 0, 1) := by decide +kernel
theorem dL_holds_20 : decode cL_holds 20 = .ok (.lastore, 1) := by decide +kernel
theorem dL_holds_21 : decode cL_holds 21 = .ok (.goto 11, 3) := by decide +kernel
theorem dL_holds_24 : decode cL_holds 24 = .ok (.astore 6, 2) := by decide +kernel
theorem dL_holds_26 : decode cL_holds 26 = .ok (.iconst 1, 1) := by decide +kernel
theorem dL_holds_27 : decode cL_holds 27 = .ok (.ireturn, 1) := by decide +kernel
theorem dL_holds_28 : decode cL_holds 28 = .ok (.astore 6, 2) := by decide +kernel
theorem dL_holds_30 : decode cL_holds 30 = .ok (.iconst 2, 1) := by decide +kernel
theorem dL_holds_31 : decode cL_holds 31 = .ok (.ireturn, 1) := by decide +kernel
theorem dL_holds_32 : decode cL_holds 32 = .ok (.iconst 0, 1) := by decide +kernel
theorem dL_holds_33 : decode cL_holds 33 = .ok (.ireturn, 1) := by decide +kernel
set_option maxRecDepth 20000 in
theorem ggL_points_X6_points : GoodIn wsL_points wsX6_points := goodIn_ca (goodIn_r _ [6, 7, 8, 9, 10, 5, 11, 12, 13, 14, 15, 16, 17, 18, 19, 20, 21, 22, 23, 24, 25, 26, 27, 28, 29, 30, 31, 32, 33, 34, 35, 36, 37, 38, 39, 40, 41, 42, 43, 44, 45, 46, 47, 48, 49, 50, 51, 52, 53, 54, 55, 56, 57, 58, 59, 60, 61, 62, 63, 64, 65, 66, 67, 68, 69, 70, 71, 72, 73, 74, 75, 76, 77, 78, 79, 80, 81, 82, 83, 84, 85, 86, 87, 88, 89, 90, 91, 92, 93, 94, 95, 96, 97, 98, 99, 100, 101, 102, 103, 104, 105, 106, 107, 108, 109, 110, 111, 112, 113, 114, 115, 116, 117, 118, 119, 120, 121, 122, 123, 124, 125, 126, 127, 128, 129, 130, 131, 132, 133, 134, 135, 136, 137, 138, 139, 140, 141, 142, 143, 144, 145, 146, 147, 148, 149, 150, 151, 152, 153, 154, 155, 156, 157, 158] (by decide +kernel) (by decide +kernel)) (goodIn_sub (fun _ h => List.mem_cons_of_mem _ (List.mem_append_right _ h)) (by decide +kernel))
set_option maxRecDepth 20000 in
theorem gL_points_X6_points : GoodIn wsL_points (wsV RL 47 RX6 yX6_points wsX6_points) := goodIn_app (goodIn_of _ (by decide +kernel)) ggL_points_X6_points
theorem dL_points_0 : decode cL_points 0 = .ok (.aload_n 2, 1) := by decide +kernel
theorem dL_points_1 : decode cL_points 1 = .ok (.iconst 0, 1) := by decide +kernel
theorem dL_points_2 : decode cL_points 2 = .ok (.aload_n 0, 1) := by decide +kernel
theorem dL_points_3 : decode cL_points 3 = .ok (.iload_n 1, 1) := by decide +kernel
theorem dL_points_4 : decode cL_points 4 = .ok (.invokevirtual 47, 3) := by decide +kernel
theorem dL_points_7 : decode cL_points 7 = .ok (.i2l, 1) := by decide +kernel
theorem dL_points_8 : decode cL_points 8 = .ok (.lastore, 1) := by decide +kernel
theorem dL_points_9 : decode cL_points 9 = .ok (.goto 6, 3) := by decide +kernel
theorem dL_points_12 : decode cL_points 12 = .ok (.astore_n 3, 1) := by decide +kernel
theorem dL_points_13 : decode cL_points 13 = .ok (.iconst 1, 1) := by decide +kernel
theorem dL_points_14 : decode cL_points 14 = .ok (.ireturn, 1) := by decide +kernel
theorem dL_points_15 : decode cL_points 15 = .ok (.iconst 0, 1) := by decide +kernel
theorem dL_points_16 : decode cL_points 16 = .ok (.ireturn, 1) := by decide +kernel
set_option maxRecDepth 20000 in
theorem ggL_pointsByTrying_X6_pointsByTrying : GoodIn wsL_pointsByTrying wsX6_pointsByTrying := goodIn_ca (goodIn_r _ [6, 7, 8, 9, 10, 5, 11, 12, 13, 14, 15, 16, 17, 18, 19, 20, 21, 22, 23, 24, 25, 26, 27, 28, 29, 30, 31, 32, 33, 34, 35, 36, 37, 38, 39, 40, 41, 42, 43, 44, 45, 46, 47, 48, 49, 50, 51, 52, 53, 54, 55, 56, 57, 58, 59, 60, 61, 62, 63, 64, 65, 66, 67, 68, 69, 70, 71, 72, 73, 74, 75, 76, 77, 78, 79, 80, 81, 82, 83, 84, 85, 86, 87, 88, 89, 90, 91, 92, 93, 94, 95, 96, 97, 98, 99, 100, 101, 102, 103, 104, 105, 106, 107, 108, 109, 110, 111, 112, 113, 114, 115, 116, 117, 118, 119, 120, 121, 122, 123, 124, 125, 126, 127, 128, 129, 130, 131, 132, 133, 134, 135, 136, 137, 138, 139, 140, 141, 142, 143, 144, 145, 146, 147, 148, 149, 150, 151, 152, 153, 154, 155] (by decide +kernel) (by decide +kernel)) (goodIn_sub (fun _ h => List.mem_cons_of_mem _ (List.mem_append_right _ h)) (by decide +kernel))
set_option maxRecDepth 20000 in
theorem gL_pointsByTrying_X6_pointsByTrying : GoodIn wsL_pointsByTrying (wsV RL 50 RX6 yX6_pointsByTrying wsX6_pointsByTrying) := goodIn_app (goodIn_of _ (by decide +kernel)) ggL_pointsByTrying_X6_pointsByTrying
theorem dL_pointsByTrying_0 : decode cL_pointsByTrying 0 = .ok (.aload_n 2, 1) := by decide +kernel
theorem dL_pointsByTrying_1 : decode cL_pointsByTrying 1 = .ok (.iconst 0, 1) := by decide +kernel
theorem dL_pointsByTrying_2 : decode cL_pointsByTrying 2 = .ok (.aload_n 0, 1) := by decide +kernel
theorem dL_pointsByTrying_3 : decode cL_pointsByTrying 3 = .ok (.iload_n 1, 1) := by decide +kernel
theorem dL_pointsByTrying_4 : decode cL_pointsByTrying 4 = .ok (.invokevirtual 50, 3) := by decide +kernel
theorem dL_pointsByTrying_7 : decode cL_pointsByTrying 7 = .ok (.i2l, 1) := by decide +kernel
theorem dL_pointsByTrying_8 : decode cL_pointsByTrying 8 = .ok (.lastore, 1) := by decide +kernel
theorem dL_pointsByTrying_9 : decode cL_pointsByTrying 9 = .ok (.goto 6, 3) := by decide +kernel
theorem dL_pointsByTrying_12 : decode cL_pointsByTrying 12 = .ok (.astore_n 3, 1) := by decide +kernel
theorem dL_pointsByTrying_13 : decode cL_pointsByTrying 13 = .ok (.iconst 1, 1) := by decide +kernel
theorem dL_pointsByTrying_14 : decode cL_pointsByTrying 14 = .ok (.ireturn, 1) := by decide +kernel
theorem dL_pointsByTrying_15 : decode cL_pointsByTrying 15 = .ok (.iconst 0, 1) := by decide +kernel
theorem dL_pointsByTrying_16 : decode cL_pointsByTrying 16 = .ok (.ireturn, 1) := by decide +kernel
set_option maxRecDepth 20000 in
theorem ggL_mark_X6_mark : GoodIn wsL_mark wsX6_mark := goodIn_ca (goodIn_r _ [6, 7, 8, 9, 5, 10, 11, 12, 13, 14, 15, 16, 17, 18, 19, 20, 21, 22, 23, 24, 25, 26, 27, 28, 29, 30, 31, 32, 33, 34, 35, 36, 37, 38, 39, 40, 41, 42, 43, 44, 45, 46, 47, 48, 49, 50, 51, 52, 53, 54, 55, 56, 57, 58, 59, 60, 61, 62, 63, 64, 65, 66, 67, 68, 69, 70, 71, 72, 73, 74, 75, 76, 77, 78, 79, 80, 81, 82, 83, 84, 85, 86, 87, 88, 89, 90, 91, 92, 93, 94, 95, 96, 97, 98, 99, 100, 101, 102, 103, 104, 105, 106, 107, 108, 109, 110, 111, 112, 113, 114, 115, 116, 117, 118, 119, 120, 121, 122, 123, 124, 125, 126, 127, 128, 129, 130, 131, 132, 133, 134, 135, 136, 137, 138, 139, 140, 141, 142, 143, 144, 145, 146, 147, 148, 149, 150, 151, 152, 153, 154, 155, 156, 157, 158, 159, 160, 161, 162, 163, 164, 165, 166, 167] (by decide +kernel) (by decide +kernel)) (goodIn_sub (fun _ h => List.mem_cons_of_mem _ (List.mem_append_right _ h)) (by decide +kernel))
set_option maxRecDepth 20000 in
theorem gL_mark_X6_mark : GoodIn wsL_mark (wsV RL 53 RX6 yX6_mark wsX6_mark) := goodIn_app (goodIn_of _ (by decide +kernel)) ggL_mark_X6_mark
theorem dL_mark_0 : decode cL_mark 0 = .ok (.aload_n 2, 1) := by decide +kernel
theorem dL_mark_1 : decode cL_mark 1 = .ok (.iconst 0, 1) := by decide +kernel
theorem dL_mark_2 : decode cL_mark 2 = .ok (.aload_n 0, 1) := by decide +kernel
theorem dL_mark_3 : decode cL_mark 3 = .ok (.iload_n 1, 1) := by decide +kernel
theorem dL_mark_4 : decode cL_mark 4 = .ok (.invokevirtual 53, 3) := by decide +kernel
theorem dL_mark_7 : decode cL_mark 7 = .ok (.i2l, 1) := by decide +kernel
theorem dL_mark_8 : decode cL_mark 8 = .ok (.lastore, 1) := by decide +kernel
theorem dL_mark_9 : decode cL_mark 9 = .ok (.goto 6, 3) := by decide +kernel
theorem dL_mark_12 : decode cL_mark 12 = .ok (.astore_n 3, 1) := by decide +kernel
theorem dL_mark_13 : decode cL_mark 13 = .ok (.iconst 1, 1) := by decide +kernel
theorem dL_mark_14 : decode cL_mark 14 = .ok (.ireturn, 1) := by decide +kernel
theorem dL_mark_15 : decode cL_mark 15 = .ok (.iconst 0, 1) := by decide +kernel
theorem dL_mark_16 : decode cL_mark 16 = .ok (.ireturn, 1) := by decide +kernel
set_option maxRecDepth 20000 in
theorem ggL_matchOf_X6_matchOf : GoodIn wsL_matchOf wsX6_matchOf := goodIn_ca (goodIn_r _ [6, 7, 8, 9, 10, 11, 5, 12, 13, 14, 15, 16, 17, 18, 19, 20, 21, 22, 23, 24, 25, 26, 27, 28, 29, 30, 31, 32, 33, 34, 35, 36, 37, 38, 39, 40, 41, 42, 43, 44, 45, 46, 47, 48, 49, 50, 51, 52, 53, 54, 55, 56, 57, 58, 59, 60, 61, 62, 63, 64, 65, 66, 67, 68, 69, 70, 71, 72, 73, 74, 75, 76, 77, 78, 79, 80, 81, 82, 83, 84, 85, 86, 87, 88, 89, 90, 91, 92, 93, 94, 95, 96, 97, 98, 99, 100, 101, 102, 103, 104, 105, 106, 107, 108, 109, 110, 111, 112, 113, 114, 115, 116, 117, 118, 119, 120, 121, 122, 123, 124, 125, 126, 127, 128, 129, 130, 131, 132, 133, 134, 135, 136, 137, 138, 139, 140, 141, 142, 143, 144, 145, 146, 147, 148, 149, 150, 151, 152, 153, 154, 155, 156, 157, 158, 159, 160, 161, 162] (by decide +kernel) (by decide +kernel)) (goodIn_sub (fun _ h => List.mem_cons_of_mem _ (List.mem_append_right _ h)) (by decide +kernel))
set_option maxRecDepth 20000 in
theorem gL_matchOf_X6_matchOf : GoodIn wsL_matchOf (wsV RL 56 RX6 yX6_matchOf wsX6_matchOf) := goodIn_app (goodIn_of _ (by decide +kernel)) ggL_matchOf_X6_matchOf
theorem dL_matchOf_0 : decode cL_matchOf 0 = .ok (.aload_n 3, 1) := by decide +kernel
theorem dL_matchOf_1 : decode cL_matchOf 1 = .ok (.iconst 0, 1) := by decide +kernel
theorem dL_matchOf_2 : decode cL_matchOf 2 = .ok (.aload_n 0, 1) := by decide +kernel
theorem dL_matchOf_3 : decode cL_matchOf 3 = .ok (.iload_n 1, 1) := by decide +kernel
theorem dL_matchOf_4 : decode cL_matchOf 4 = .ok (.iload_n 2, 1) := by decide +kernel
theorem dL_matchOf_5 : decode cL_matchOf 5 = .ok (.invokevirtual 56, 3) := by decide +kernel
theorem dL_matchOf_8 : decode cL_matchOf 8 = .ok (.i2l, 1) := by decide +kernel
theorem dL_matchOf_9 : decode cL_matchOf 9 = .ok (.lastore, 1) := by decide +kernel
theorem dL_matchOf_10 : decode cL_matchOf 10 = .ok (.goto 7, 3) := by decide +kernel
theorem dL_matchOf_13 : decode cL_matchOf 13 = .ok (.astore 4, 2) := by decide +kernel
theorem dL_matchOf_15 : decode cL_matchOf 15 = .ok (.iconst 1, 1) := by decide +kernel
theorem dL_matchOf_16 : decode cL_matchOf 16 = .ok (.ireturn, 1) := by decide +kernel
theorem dL_matchOf_17 : decode cL_matchOf 17 = .ok (.iconst 0, 1) := by decide +kernel
theorem dL_matchOf_18 : decode cL_matchOf 18 = .ok (.ireturn, 1) := by decide +kernel
set_option maxRecDepth 20000 in
theorem ggL_verdict_X6_verdict : GoodIn wsL_verdict wsX6_verdict := goodIn_ca (goodIn_ca (goodIn_ca (goodIn_r _ [8, 9, 10, 11, 12, 13, 14, 15, 16, 7, 17, 18, 19, 20, 21, 22, 23, 24, 25, 26, 27, 28, 29, 30, 31, 32, 33, 34, 35, 36, 37, 38, 39, 40, 41, 42, 43, 44, 45, 46, 47, 48, 49, 50, 51, 52, 53, 54, 55, 56, 57, 58, 59, 60, 61, 62, 63, 64, 65, 66, 67, 68, 69, 70, 71, 72, 73, 74, 75, 76, 77, 78, 79, 80, 81, 82, 83, 84, 85, 86, 87, 88, 89, 90, 91, 92, 93, 94, 95, 96, 97, 98, 99, 100, 101, 102, 103, 104, 105, 106, 107, 108, 109, 110, 111, 112, 113, 114, 115, 116, 117, 118, 119, 120, 121, 122, 123, 124, 125, 126, 127, 128, 129, 130, 131, 132, 133, 134, 135, 136, 137, 138, 139, 140, 141, 142, 143, 144, 145, 146, 147, 148, 149, 150, 151, 152, 153, 154, 155, 156, 157, 158, 159, 160, 161, 162, 163, 164, 165, 166, 167, 168, 169, 170, 171, 172, 173, 174, 175, 176, 177, 178, 179, 180, 181, 182, 183, 184, 185, 186] (by decide +kernel) (by decide +kernel)) (goodIn_sub (fun _ h => List.mem_cons_of_mem _ (List.mem_append_left _ (List.mem_append_left _ (List.mem_append_right _ h)))) (by decide +kernel))) (goodIn_sub (fun _ h => List.mem_cons_of_mem _ (List.mem_append_left _ (List.mem_append_right _ h))) (by decide +kernel))) (goodIn_sub (fun _ h => List.mem_cons_of_mem _ (List.mem_append_right _ h)) (by decide +kernel))
set_option maxRecDepth 20000 in
theorem gL_verdict_X6_verdict : GoodIn wsL_verdict (wsV RL 59 RX6 yX6_verdict wsX6_verdict) := goodIn_app (goodIn_of _ (by decide +kernel)) ggL_verdict_X6_verdict
theorem dL_verdict_0 : decode cL_verdict 0 = .ok (.aload 5, 2) := by decide +kernel
theorem dL_verdict_2 : decode cL_verdict 2 = .ok (.iconst 0, 1) := by decide +kernel
theorem dL_verdict_3 : decode cL_verdict 3 = .ok (.aload_n 0, 1) := by decide +kernel
theorem dL_verdict_4 : decode cL_verdict 4 = .ok (.iload_n 1, 1) := by decide +kernel
theorem dL_verdict_5 : decode cL_verdict 5 = .ok (.iload_n 2, 1) := by decide +kernel
theorem dL_verdict_6 : decode cL_verdict 6 = .ok (.iload_n 3, 1) := by decide +kernel
theorem dL_verdict_7 : decode cL_verdict 7 = .ok (.iload 4, 2) := by decide +kernel
theorem dL_verdict_9 : decode cL_verdict 9 = .ok (.invokevirtual 59, 3) := by decide +kernel
theorem dL_verdict_12 : decode cL_verdict 12 = .ok (.i2l, 1) := by decide +kernel
theorem dL_verdict_13 : decode cL_verdict 13 = .ok (.lastore, 1) := by decide +kernel
theorem dL_verdict_14 : decode cL_verdict 14 = .ok (.goto 15, 3) := by decide +kernel
theorem dL_verdict_17 : decode cL_verdict 17 = .ok (.astore 6, 2) := by decide +kernel
theorem dL_verdict_19 : decode cL_verdict 19 = .ok (.iconst 1, 1) := by decide +kernel
theorem dL_verdict_20 : decode cL_verdict 20 = .ok (.ireturn, 1) := by decide +kernel
theorem dL_verdict_21 : decode cL_verdict 21 = .ok (.astore 6, 2) := by decide +kernel
theorem dL_verdict_23 : decode cL_verdict 23 = .ok (.iconst 2, 1) := by decide +kernel
theorem dL_verdict_24 : decode cL_verdict 24 = .ok (.ireturn, 1) := by decide +kernel
theorem dL_verdict_25 : decode cL_verdict 25 = .ok (.astore 6, 2) := by decide +kernel
theorem dL_verdict_27 : decode cL_verdict 27 = .ok (.iconst 3, 1) := by decide +kernel
theorem dL_verdict_28 : decode cL_verdict 28 = .ok (.ireturn, 1) := by decide +kernel
theorem dL_verdict_29 : decode cL_verdict 29 = .ok (.iconst 0, 1) := by decide +kernel
theorem dL_verdict_30 : decode cL_verdict 30 = .ok (.ireturn, 1) := by decide +kernel
set_option maxRecDepth 20000 in
theorem ggL_lacking_X6_lacking : GoodIn wsL_lacking wsX6_lacking := goodIn_ca (goodIn_r _ [6, 7, 8, 9, 10, 5, 11, 12, 13, 14, 15, 16, 17, 18, 19, 20, 21, 22, 23, 24, 25, 26, 27, 28, 29, 30, 31, 32, 33, 34, 35, 36, 37, 38, 39, 40, 41, 42, 43, 44, 45, 46, 47, 48, 49, 50, 51, 52, 53, 54, 55, 56, 57, 58, 59, 60, 61, 62, 63, 64, 65, 66, 67, 68, 69, 70, 71, 72, 73, 74, 75, 76, 77, 78, 79, 80, 81, 82, 83, 84, 85, 86, 87, 88, 89, 90, 91, 92, 93, 94, 95, 96, 97, 98, 99, 100, 101, 102, 103, 104, 105, 106, 107, 108, 109, 110, 111, 112, 113, 114, 115, 116, 117, 118, 119, 120, 121, 122, 123, 124, 125, 126, 127, 128, 129, 130, 131, 132, 133, 134, 135, 136, 137, 138, 139, 140, 141, 142, 143, 144, 145, 146, 147, 148, 149, 150, 151, 152, 153, 154, 155, 156, 157, 158, 159, 160, 161, 162] (by decide +kernel) (by decide +kernel)) (goodIn_sub (fun _ h => List.mem_cons_of_mem _ (List.mem_append_right _ h)) (by decide +kernel))
set_option maxRecDepth 20000 in
theorem gL_lacking_X6_lacking : GoodIn wsL_lacking (wsV RL 63 RX6 yX6_lacking wsX6_lacking) := goodIn_app (goodIn_of _ (by decide +kernel)) ggL_lacking_X6_lacking
theorem dL_lacking_0 : decode cL_lacking 0 = .ok (.aload_n 2, 1) := by decide +kernel
theorem dL_lacking_1 : decode cL_lacking 1 = .ok (.iconst 0, 1) := by decide +kernel
theorem dL_lacking_2 : decode cL_lacking 2 = .ok (.aload_n 0, 1) := by decide +kernel
theorem dL_lacking_3 : decode cL_lacking 3 = .ok (.iload_n 1, 1) := by decide +kernel
theorem dL_lacking_4 : decode cL_lacking 4 = .ok (.invokevirtual 63, 3) := by decide +kernel
theorem dL_lacking_7 : decode cL_lacking 7 = .ok (.i2l, 1) := by decide +kernel
theorem dL_lacking_8 : decode cL_lacking 8 = .ok (.lastore, 1) := by decide +kernel
theorem dL_lacking_9 : decode cL_lacking 9 = .ok (.goto 6, 3) := by decide +kernel
theorem dL_lacking_12 : decode cL_lacking 12 = .ok (.astore_n 3, 1) := by decide +kernel
theorem dL_lacking_13 : decode cL_lacking 13 = .ok (.iconst 1, 1) := by decide +kernel
theorem dL_lacking_14 : decode cL_lacking 14 = .ok (.ireturn, 1) := by decide +kernel
theorem dL_lacking_15 : decode cL_lacking 15 = .ok (.iconst 0, 1) := by decide +kernel
theorem dL_lacking_16 : decode cL_lacking 16 = .ok (.ireturn, 1) := by decide +kernel
set_option maxRecDepth 20000 in
theorem ggL_hint_X6_hint : GoodIn wsL_hint wsX6_hint := goodIn_ca (goodIn_r _ [6, 7, 8, 9, 10, 5, 11, 12, 13, 14, 15, 16, 17, 18, 19, 20, 21, 22, 23, 24, 25, 26, 27, 28, 29, 30, 31, 32, 33, 34, 35, 36, 37, 38, 39, 40, 41, 42, 43, 44, 45, 46, 47, 48, 49, 50, 51, 52, 53, 54, 55, 56, 57, 58, 59, 60, 61, 62, 63, 64, 65, 66, 67, 68, 69, 70, 71, 72, 73, 74, 75, 76, 77, 78, 79, 80, 81, 82, 83, 84, 85, 86, 87, 88, 89, 90, 91, 92, 93, 94, 95, 96, 97, 98, 99, 100, 101, 102, 103, 104, 105, 106, 107, 108, 109, 110, 111, 112, 113, 114, 115, 116, 117, 118, 119, 120, 121, 122, 123, 124, 125, 126, 127, 128, 129, 130, 131, 132, 133, 134, 135, 136, 137, 138, 139, 140, 141, 142, 143, 144, 145, 146, 147, 148, 149, 150, 151, 152, 153, 154, 155, 156, 157, 158, 159, 160, 161, 162, 163, 164, 165, 166, 167, 168, 169, 170, 171, 172, 173, 174, 175] (by decide +kernel) (by decide +kernel)) (goodIn_sub (fun _ h => List.mem_cons_of_mem _ (List.mem_append_right _ h)) (by decide +kernel))
set_option maxRecDepth 20000 in
theorem gL_hint_X6_hint : GoodIn wsL_hint (wsV RL 66 RX6 yX6_hint wsX6_hint) := goodIn_app (goodIn_of _ (by decide +kernel)) ggL_hint_X6_hint
theorem dL_hint_0 : decode cL_hint 0 = .ok (.aload_n 2, 1) := by decide +kernel
theorem dL_hint_1 : decode cL_hint 1 = .ok (.iconst 0, 1) := by decide +kernel
theorem dL_hint_2 : decode cL_hint 2 = .ok (.aload_n 0, 1) := by decide +kernel
theorem dL_hint_3 : decode cL_hint 3 = .ok (.iload_n 1, 1) := by decide +kernel
theorem dL_hint_4 : decode cL_hint 4 = .ok (.invokevirtual 66, 3) := by decide +kernel
theorem dL_hint_7 : decode cL_hint 7 = .ok (.i2l, 1) := by decide +kernel
theorem dL_hint_8 : decode cL_hint 8 = .ok (.lastore, 1) := by decide +kernel
theorem dL_hint_9 : decode cL_hint 9 = .ok (.goto 6, 3) := by decide +kernel
theorem dL_hint_12 : decode cL_hint 12 = .ok (.astore_n 3, 1) := by decide +kernel
theorem dL_hint_13 : decode cL_hint 13 = .ok (.iconst 1, 1) := by decide +kernel
theorem dL_hint_14 : decode cL_hint 14 = .ok (.ireturn, 1) := by decide +kernel
theorem dL_hint_15 : decode cL_hint 15 = .ok (.iconst 0, 1) := by decide +kernel
theorem dL_hint_16 : decode cL_hint 16 = .ok (.ireturn, 1) := by decide +kernel
set_option maxRecDepth 20000 in
theorem ggL_gain_X6_gain : GoodIn wsL_gain wsX6_gain := goodIn_ca (goodIn_r _ [6, 7, 8, 9, 10, 5, 11, 12, 13, 14, 15, 16, 17, 18, 19, 20, 21, 22, 23, 24, 25, 26, 27, 28, 29, 30, 31, 32, 33, 34, 35, 36, 37, 38, 39, 40, 41, 42, 43, 44, 45, 46, 47, 48, 49, 50, 51, 52, 53, 54, 55, 56, 57, 58, 59, 60, 61, 62, 63, 64, 65, 66, 67, 68, 69, 70, 71, 72, 73, 74, 75, 76, 77, 78, 79, 80, 81, 82, 83, 84, 85, 86, 87, 88, 89, 90, 91, 92, 93, 94, 95, 96, 97, 98, 99, 100, 101, 102, 103, 104, 105, 106, 107, 108, 109, 110, 111, 112, 113, 114, 115, 116, 117, 118, 119, 120, 121, 122, 123, 124, 125, 126, 127, 128, 129, 130, 131, 132, 133, 134, 135, 136, 137, 138, 139, 140, 141, 142, 143, 144, 145, 146, 147, 148, 149, 150, 151, 152, 153, 154, 155, 156, 157, 158, 159, 160, 161, 162, 163, 164, 165, 166, 167, 168, 169, 170, 171, 172, 173, 174, 175] (by decide +kernel) (by decide +kernel)) (goodIn_sub (fun _ h => List.mem_cons_of_mem _ (List.mem_append_right _ h)) (by decide +kernel))
set_option maxRecDepth 20000 in
theorem gL_gain_X6_gain : GoodIn wsL_gain (wsV RL 69 RX6 yX6_gain wsX6_gain) := goodIn_app (goodIn_of _ (by decide +kernel)) ggL_gain_X6_gain
theorem dL_gain_0 : decode cL_gain 0 = .ok (.aload_n 2, 1) := by decide +kernel
theorem dL_gain_1 : decode cL_gain 1 = .ok (.iconst 0, 1) := by decide +kernel
theorem dL_gain_2 : decode cL_gain 2 = .ok (.aload_n 0, 1) := by decide +kernel
theorem dL_gain_3 : decode cL_gain 3 = .ok (.iload_n 1, 1) := by decide +kernel
theorem dL_gain_4 : decode cL_gain 4 = .ok (.invokevirtual 69, 3) := by decide +kernel
theorem dL_gain_7 : decode cL_gain 7 = .ok (.i2l, 1) := by decide +kernel
theorem dL_gain_8 : decode cL_gain 8 = .ok (.lastore, 1) := by decide +kernel
theorem dL_gain_9 : decode cL_gain 9 = .ok (.goto 6, 3) := by decide +kernel
theorem dL_gain_12 : decode cL_gain 12 = .ok (.astore_n 3, 1) := by decide +kernel
theorem dL_gain_13 : decode cL_gain 13 = .ok (.iconst 1, 1) := by decide +kernel
theorem dL_gain_14 : decode cL_gain 14 = .ok (.ireturn, 1) := by decide +kernel
theorem dL_gain_15 : decode cL_gain 15 = .ok (.iconst 0, 1) := by decide +kernel
theorem dL_gain_16 : decode cL_gain 16 = .ok (.ireturn, 1) := by decide +kernel
