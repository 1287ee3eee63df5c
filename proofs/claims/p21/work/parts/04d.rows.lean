theorem dX6_takeTrialLink_59 : decode cX6_takeTrialLink 59 = .ok (.invokevirtual 120, 3) := by decide +kernel
theorem dX6_takeTrialLink_62 : decode cX6_takeTrialLink 62 = .ok (.return_, 1) := by decide +kernel
set_option maxRecDepth 20000 in
theorem ggX6_pointsFor_J6_bitCount_0f7a4 : GoodIn wsX6_pointsFor wsJ6_bitCount_0f7a4 := goodIn_r _ [4, 5, 6, 7] (by decide +kernel) (by decide +kernel)
set_option maxRecDepth 20000 in
theorem gX6_pointsFor_J6_bitCount_0f7a4 : GoodIn wsX6_pointsFor (va_wsS RX6 208 yJ6_bitCount_0f7a4 wsJ6_bitCount_0f7a4) := goodIn_app (goodIn_of _ (by decide +kernel)) ggX6_pointsFor_J6_bitCount_0f7a4
theorem dX6_pointsFor_0 : decode cX6_pointsFor 0 = .ok (.iload_n 0, 1) := by decide +kernel
theorem dX6_pointsFor_1 : decode cX6_pointsFor 1 = .ok (.iload_n 1, 1) := by decide +kernel
theorem dX6_pointsFor_2 : decode cX6_pointsFor 2 = .ok (.iconst (-1), 1) := by decide +kernel
theorem dX6_pointsFor_3 : decode cX6_pointsFor 3 = .ok (.ixor, 1) := by decide +kernel
theorem dX6_pointsFor_4 : decode cX6_pointsFor 4 = .ok (.iand, 1) := by decide +kernel
theorem dX6_pointsFor_5 : decode cX6_pointsFor 5 = .ok (.istore 4, 2) := by decide +kernel
theorem dX6_pointsFor_7 : decode cX6_pointsFor 7 = .ok (.iconst 4, 1) := by decide +kernel
theorem dX6_pointsFor_8 : decode cX6_pointsFor 8 = .ok (.iload_n 0, 1) := by decide +kernel
theorem dX6_pointsFor_9 : decode cX6_pointsFor 9 = .ok (.iload_n 1, 1) := by decide +kernel
theorem dX6_pointsFor_10 : decode cX6_pointsFor 10 = .ok (.iand, 1) := by decide +kernel
theorem dX6_pointsFor_11 : decode cX6_pointsFor 11 = .ok (.invokestatic 208, 3) := by decide +kernel
theorem dX6_pointsFor_14 : decode cX6_pointsFor 14 = .ok (.imul, 1) := by decide +kernel
theorem dX6_pointsFor_15 : decode cX6_pointsFor 15 = .ok (.istore 5, 2) := by decide +kernel
theorem dX6_pointsFor_17 : decode cX6_pointsFor 17 = .ok (.iload_n 2, 1) := by decide +kernel
theorem dX6_pointsFor_18 : decode cX6_pointsFor 18 = .ok (.ifCond .eq 14, 3) := by decide +kernel
theorem dX6_pointsFor_21 : decode cX6_pointsFor 21 = .ok (.iload 5, 2) := by decide +kernel
theorem dX6_pointsFor_23 : decode cX6_pointsFor 23 = .ok (.iconst 2, 1) := by decide +kernel
theorem dX6_pointsFor_24 : decode cX6_pointsFor 24 = .ok (.iload 4, 2) := by decide +kernel
theorem dX6_pointsFor_26 : decode cX6_pointsFor 26 = .ok (.invokestatic 208, 3) := by decide +kernel
theorem dX6_pointsFor_29 : decode cX6_pointsFor 29 = .ok (.imul, 1) := by decide +kernel
theorem dX6_pointsFor_30 : decode cX6_pointsFor 30 = .ok (.iadd, 1) := by decide +kernel
theorem dX6_pointsFor_31 : decode cX6_pointsFor 31 = .ok (.ireturn, 1) := by decide +kernel
theorem dX6_pointsFor_32 : decode cX6_pointsFor 32 = .ok (.iload 5, 2) := by decide +kernel
theorem dX6_pointsFor_34 : decode cX6_pointsFor 34 = .ok (.iconst 1, 1) := by decide +kernel
theorem dX6_pointsFor_35 : decode cX6_pointsFor 35 = .ok (.iload 4, 2) := by decide +kernel
theorem dX6_pointsFor_37 : decode cX6_pointsFor 37 = .ok (.iload_n 3, 1) := by decide +kernel
theorem dX6_pointsFor_38 : decode cX6_pointsFor 38 = .ok (.iand, 1) := by decide +kernel
theorem dX6_pointsFor_39 : decode cX6_pointsFor 39 = .ok (.invokestatic 208, 3) := by decide +kernel
theorem dX6_pointsFor_42 : decode cX6_pointsFor 42 = .ok (.imul, 1) := by decide +kernel
theorem dX6_pointsFor_43 : decode cX6_pointsFor 43 = .ok (.iadd, 1) := by decide +kernel
theorem dX6_pointsFor_44 : decode cX6_pointsFor 44 = .ok (.ireturn, 1) := by decide +kernel
theorem dX6_verdictWorth_0 : decode cX6_verdictWorth 0 = .ok (.iload_n 0, 1) := by decide +kernel
theorem dX6_verdictWorth_1 : decode cX6_verdictWorth 1 = .ok (.tableswitch 37 1 4 #[35, 33, 37, 31], 31) := by decide +kernel
theorem dX6_verdictWorth_32 : decode cX6_verdictWorth 32 = .ok (.iconst 3, 1) := by decide +kernel
theorem dX6_verdictWorth_33 : decode cX6_verdictWorth 33 = .ok (.ireturn, 1) := by decide +kernel
theorem dX6_verdictWorth_34 : decode cX6_verdictWorth 34 = .ok (.iconst 2, 1) := by decide +kernel
theorem dX6_verdictWorth_35 : decode cX6_verdictWorth 35 = .ok (.ireturn, 1) := by decide +kernel
theorem dX6_verdictWorth_36 : decode cX6_verdictWorth 36 = .ok (.iconst 1, 1) := by decide +kernel
theorem dX6_verdictWorth_37 : decode cX6_verdictWorth 37 = .ok (.ireturn, 1) := by decide +kernel
theorem dX6_verdictWorth_38 : decode cX6_verdictWorth 38 = .ok (.iconst 0, 1) := by decide +kernel
theorem dX6_verdictWorth_39 : decode cX6_verdictWorth 39 = .ok (.ireturn, 1) := by decide +kernel
theorem dJ6_bitCount_0f7a4_0 : decode cJ6_bitCount_0f7a4 0 = .ok (.iload_n 0, 1) := by decide +kernel
theorem dJ6_bitCount_0f7a4_1 : decode cJ6_bitCount_0f7a4 1 = .ok (.iload_n 0, 1) := by decide +kernel
theorem dJ6_bitCount_0f7a4_2 : decode cJ6_bitCount_0f7a4 2 = .ok (.iconst 1, 1) := by decide +kernel
theorem dJ6_bitCount_0f7a4_3 : decode cJ6_bitCount_0f7a4 3 = .ok (.iushr, 1) := by decide +kernel
theorem dJ6_bitCount_0f7a4_4 : decode cJ6_bitCount_0f7a4 4 = .ok (.ldc_w 265, 3) := by decide +kernel
theorem dJ6_bitCount_0f7a4_7 : decode cJ6_bitCount_0f7a4 7 = .ok (.iand, 1) := by decide +kernel
theorem dJ6_bitCount_0f7a4_8 : decode cJ6_bitCount_0f7a4 8 = .ok (.isub, 1) := by decide +kernel
theorem dJ6_bitCount_0f7a4_9 : decode cJ6_bitCount_0f7a4 9 = .ok (.istore_n 0, 1) := by decide +kernel
theorem dJ6_bitCount_0f7a4_10 : decode cJ6_bitCount_0f7a4 10 = .ok (.iload_n 0, 1) := by decide +kernel
theorem dJ6_bitCount_0f7a4_11 : decode cJ6_bitCount_0f7a4 11 = .ok (.ldc_w 266, 3) := by decide +kernel
theorem dJ6_bitCount_0f7a4_14 : decode cJ6_bitCount_0f7a4 14 = .ok (.iand, 1) := by decide +kernel
theorem dJ6_bitCount_0f7a4_15 : decode cJ6_bitCount_0f7a4 15 = .ok (.iload_n 0, 1) := by decide +kernel
theorem dJ6_bitCount_0f7a4_16 : decode cJ6_bitCount_0f7a4 16 = .ok (.iconst 2, 1) := by decide +kernel
theorem dJ6_bitCount_0f7a4_17 : decode cJ6_bitCount_0f7a4 17 = .ok (.iushr, 1) := by decide +kernel
theorem dJ6_bitCount_0f7a4_18 : decode cJ6_bitCount_0f7a4 18 = .ok (.ldc_w 266, 3) := by decide +kernel
theorem dJ6_bitCount_0f7a4_21 : decode cJ6_bitCount_0f7a4 21 = .ok (.iand, 1) := by decide +kernel
theorem dJ6_bitCount_0f7a4_22 : decode cJ6_bitCount_0f7a4 22 = .ok (.iadd, 1) := by decide +kernel
theorem dJ6_bitCount_0f7a4_23 : decode cJ6_bitCount_0f7a4 23 = .ok (.istore_n 0, 1) := by decide +kernel
theorem dJ6_bitCount_0f7a4_24 : decode cJ6_bitCount_0f7a4 24 = .ok (.iload_n 0, 1) := by decide +kernel
theorem dJ6_bitCount_0f7a4_25 : decode cJ6_bitCount_0f7a4 25 = .ok (.iload_n 0, 1) := by decide +kernel
theorem dJ6_bitCount_0f7a4_26 : decode cJ6_bitCount_0f7a4 26 = .ok (.iconst 4, 1) := by decide +kernel
theorem dJ6_bitCount_0f7a4_27 : decode cJ6_bitCount_0f7a4 27 = .ok (.iushr, 1) := by decide +kernel
theorem dJ6_bitCount_0f7a4_28 : decode cJ6_bitCount_0f7a4 28 = .ok (.iadd, 1) := by decide +kernel
theorem dJ6_bitCount_0f7a4_29 : decode cJ6_bitCount_0f7a4 29 = .ok (.ldc_w 267, 3) := by decide +kernel
theorem dJ6_bitCount_0f7a4_32 : decode cJ6_bitCount_0f7a4 32 = .ok (.iand, 1) := by decide +kernel
theorem dJ6_bitCount_0f7a4_33 : decode cJ6_bitCount_0f7a4 33 = .ok (.istore_n 0, 1) := by decide +kernel
theorem dJ6_bitCount_0f7a4_34 : decode cJ6_bitCount_0f7a4 34 = .ok (.iload_n 0, 1) := by decide +kernel
theorem dJ6_bitCount_0f7a4_35 : decode cJ6_bitCount_0f7a4 35 = .ok (.iload_n 0, 1) := by decide +kernel
theorem dJ6_bitCount_0f7a4_36 : decode cJ6_bitCount_0f7a4 36 = .ok (.bipush 8, 2) := by decide +kernel
theorem dJ6_bitCount_0f7a4_38 : decode cJ6_bitCount_0f7a4 38 = .ok (.iushr, 1) := by decide +kernel
theorem dJ6_bitCount_0f7a4_39 : decode cJ6_bitCount_0f7a4 39 = .ok (.iadd, 1) := by decide +kernel
theorem dJ6_bitCount_0f7a4_40 : decode cJ6_bitCount_0f7a4 40 = .ok (.istore_n 0, 1) := by decide +kernel
theorem dJ6_bitCount_0f7a4_41 : decode cJ6_bitCount_0f7a4 41 = .ok (.iload_n 0, 1) := by decide +kernel
theorem dJ6_bitCount_0f7a4_42 : decode cJ6_bitCount_0f7a4 42 = .ok (.iload_n 0, 1) := by decide +kernel
theorem dJ6_bitCount_0f7a4_43 : decode cJ6_bitCount_0f7a4 43 = .ok (.bipush 16, 2) := by decide +kernel
theorem dJ6_bitCount_0f7a4_45 : decode cJ6_bitCount_0f7a4 45 = .ok (.iushr, 1) := by decide +kernel
theorem dJ6_bitCount_0f7a4_46 : decode cJ6_bitCount_0f7a4 46 = .ok (.iadd, 1) := by decide +kernel
theorem dJ6_bitCount_0f7a4_47 : decode cJ6_bitCount_0f7a4 47 = .ok (.istore_n 0, 1) := by decide +kernel
theorem dJ6_bitCount_0f7a4_48 : decode cJ6_bitCount_0f7a4 48 = .ok (.iload_n 0, 1) := by decide +kernel
theorem dJ6_bitCount_0f7a4_49 : decode cJ6_bitCount_0f7a4 49 = .ok (.bipush 63, 2) := by decide +kernel
theorem dJ6_bitCount_0f7a4_51 : decode cJ6_bitCount_0f7a4 51 = .ok (.iand, 1) := by decide +kernel
theorem dJ6_bitCount_0f7a4_52 : decode cJ6_bitCount_0f7a4 52 = .ok (.ireturn, 1) := by decide +kernel
theorem dJ9_max_7cf53_0 : decode cJ9_max_7cf53 0 = .ok (.iload_n 0, 1) := by decide +kernel
theorem dJ9_max_7cf53_1 : decode cJ9_max_7cf53 1 = .ok (.iload_n 1, 1) := by decide +kernel
theorem dJ9_max_7cf53_2 : decode cJ9_max_7cf53 2 = .ok (.if_icmp .lt 7, 3) := by decide +kernel
theorem dJ9_max_7cf53_5 : decode cJ9_max_7cf53 5 = .ok (.iload_n 0, 1) := by decide +kernel
theorem dJ9_max_7cf53_6 : decode cJ9_max_7cf53 6 = .ok (.goto 4, 3) := by decide +kernel
theorem dJ9_max_7cf53_9 : decode cJ9_max_7cf53 9 = .ok (.iload_n 1, 1) := by decide +kernel
theorem dJ9_max_7cf53_10 : decode cJ9_max_7cf53 10 = .ok (.ireturn, 1) := by decide +kernel
theorem dL_cell_0 : decode cL_cell 0 = .ok (.iload_n 1, 1) := by decide +kernel
theorem dL_cell_1 : decode cL_cell 1 = .ok (.aload_n 0, 1) := by decide +kernel
theorem dL_cell_2 : decode cL_cell 2 = .ok (.arraylength, 1) := by decide +kernel
theorem dL_cell_3 : decode cL_cell 3 = .ok (.if_icmp .ge 9, 3) := by decide +kernel
theorem dL_cell_6 : decode cL_cell 6 = .ok (.aload_n 0, 1) := by decide +kernel
theorem dL_cell_7 : decode cL_cell 7 = .ok (.iload_n 1, 1) := by decide +kernel
theorem dL_cell_8 : decode cL_cell 8 = .ok (.iaload, 1) := by decide +kernel
theorem dL_cell_9 : decode cL_cell 9 = .ok (.goto 11, 3) := by decide +kernel
theorem dL_cell_12 : decode cL_cell 12 = .ok (.sipush 17081, 3) := by decide +kernel
theorem dL_cell_15 : decode cL_cell 15 = .ok (.iload_n 1, 1) := by decide +kernel
theorem dL_cell_16 : decode cL_cell 16 = .ok (.bipush 29, 2) := by decide +kernel
theorem dL_cell_18 : decode cL_cell 18 = .ok (.iadd, 1) := by decide +kernel
theorem dL_cell_19 : decode cL_cell 19 = .ok (.imul, 1) := by decide +kernel
theorem dL_cell_20 : decode cL_cell 20 = .ok (.istore_n 2, 1) := by decide +kernel
theorem dL_cell_21 : decode cL_cell 21 = .ok (.iload_n 2, 1) := by decide +kernel
theorem dL_cell_22 : decode cL_cell 22 = .ok (.iload_n 2, 1) := by decide +kernel
theorem dL_cell_23 : decode cL_cell 23 = .ok (.bipush 14, 2) := by decide +kernel
theorem dL_cell_25 : decode cL_cell 25 = .ok (.iushr, 1) := by decide +kernel
theorem dL_cell_26 : decode cL_cell 26 = .ok (.ixor, 1) := by decide +kernel
theorem dL_cell_27 : decode cL_cell 27 = .ok (.ldc 7, 2) := by decide +kernel
theorem dL_cell_29 : decode cL_cell 29 = .ok (.imul, 1) := by decide +kernel
theorem dL_cell_30 : decode cL_cell 30 = .ok (.bipush 103, 2) := by decide +kernel
theorem dL_cell_32 : decode cL_cell 32 = .ok (.iload_n 1, 1) := by decide +kernel
theorem dL_cell_33 : decode cL_cell 33 = .ok (.imul, 1) := by decide +kernel
theorem dL_cell_34 : decode cL_cell 34 = .ok (.iadd, 1) := by decide +kernel
theorem dL_cell_35 : decode cL_cell 35 = .ok (.ireturn, 1) := by decide +kernel
theorem dL_some_0 : decode cL_some 0 = .ok (.iload_n 0, 1) := by decide +kernel
theorem dL_some_1 : decode cL_some 1 = .ok (.iconst 1, 1) := by decide +kernel
theorem dL_some_2 : decode cL_some 2 = .ok (.iushr, 1) := by decide +kernel
theorem dL_some_3 : decode cL_some 3 = .ok (.iload_n 1, 1) := by decide +kernel
theorem dL_some_4 : decode cL_some 4 = .ok (.irem, 1) := by decide +kernel
theorem dL_some_5 : decode cL_some 5 = .ok (.ireturn, 1) := by decide +kernel
set_option maxRecDepth 20000 in
theorem ggL_call_L_does : GoodIn wsL_call wsL_does := goodIn_ca (goodIn_ca (goodIn_ca (goodIn_r _ [7, 8, 9, 10, 11, 12, 13, 14, 15, 16, 17, 18, 19, 20, 21, 22, 23, 24, 25, 26, 27, 28, 29, 30, 31, 32, 33, 34, 35, 36, 37, 38, 39, 40, 41, 42, 43, 44, 45, 46, 47, 48, 49, 50, 51, 52, 53, 54, 55, 56, 57, 58, 59, 60, 61, 62, 63, 64, 65, 66, 67, 68, 69, 70, 71, 72, 73, 74, 75, 76, 77, 78, 79, 80, 81, 82, 83, 84, 85, 86, 87, 88, 89, 90, 91, 92, 93, 94, 95, 96, 97, 98, 99, 100, 101, 102, 103, 104, 105, 106, 107, 108, 109, 110, 111, 112, 113, 114, 115, 116, 117, 118, 119, 120, 121, 122, 123, 124, 125, 126, 127, 128, 129, 130, 131, 132, 133, 134, 135, 136, 137, 138, 139, 140, 141, 142, 143, 144, 145, 146, 147, 148, 149, 150, 151, 152, 153, 154, 155, 156, 157, 158, 159, 160, 161, 162, 163, 164, 165, 166, 167, 168, 169, 170, 171, 172, 173, 174, 175, 176, 177, 178, 179, 180, 181, 182, 183, 184, 185, 186, 187, 188, 189, 190, 191, 192, 193, 194, 195, 196, 197, 198, 199, 200, 201, 202, 203, 204, 205, 206, 207, 208, 209, 210, 211, 212, 213, 214, 215, 216, 217, 218, 219, 220, 221, 222, 223, 224, 225, 226, 227, 228, 229, 230, 231, 232, 233, 234, 235, 236, 237, 238, 239, 240, 241, 242, 243, 244, 245, 246, 247, 248, 249, 250, 251, 252, 253, 254, 255, 256, 257, 258, 259, 260, 261, 262, 263, 264, 265, 266, 267, 268, 269, 270, 271, 272, 273, 274, 275, 276, 277, 278, 279, 280, 281, 282, 283, 284, 285, 286, 287, 288, 289, 290, 291, 292, 293, 294, 295, 296, 297, 298, 299, 300, 301, 302, 303, 304, 305, 306, 307, 308, 309, 310, 311, 312, 313, 314, 315, 316, 317, 318, 319, 320, 321, 322, 323, 324, 325] (by decide +kernel) (by decide +kernel)) (goodIn_sub (fun _ h => List.mem_cons_of_mem _ (List.mem_append_left _ (List.mem_append_left _ (List.mem_append_right _ h)))) (by decide +kernel))) (goodIn_sub (fun _ h => List.mem_cons_of_mem _ (List.mem_append_left _ (List.mem_append_right _ h))) (by decide +kernel))) (goodIn_sub (fun _ h => List.mem_cons_of_mem _ (List.mem_append_right _ h)) (by decide +kernel))
set_option maxRecDepth 20000 in
theorem gL_call_L_does : GoodIn wsL_call (va_wsS RL 8 yL_does wsL_does) := goodIn_app (goodIn_of _ (by decide +kernel)) ggL_call_L_does
theorem dL_call_0 : decode cL_call 0 = .ok (.aload_n 0, 1) := by decide +kernel
theorem dL_call_1 : decode cL_call 1 = .ok (.iload_n 1, 1) := by decide +kernel
theorem dL_call_2 : decode cL_call 2 = .ok (.iload_n 2, 1) := by decide +kernel
theorem dL_call_3 : decode cL_call 3 = .ok (.iload_n 3, 1) := by decide +kernel
theorem dL_call_4 : decode cL_call 4 = .ok (.iload 4, 2) := by decide +kernel
theorem dL_call_6 : decode cL_call 6 = .ok (.iload 5, 2) := by decide +kernel
theorem dL_call_8 : decode cL_call 8 = .ok (.invokestatic 8, 3) := by decide +kernel
theorem dL_call_11 : decode cL_call 11 = .ok (.ireturn, 1) := by decide +kernel
theorem dL_call_12 : decode cL_call 12 = .ok (.astore 6, 2) := by decide +kernel
theorem dL_call_14 : decode cL_call 14 = .ok (.bipush (-111), 2) := by decide +kernel
theorem dL_call_16 : decode cL_call 16 = .ok (.ireturn, 1) := by decide +kernel
theorem dL_call_17 : decode cL_call 17 = .ok (.astore 6, 2) := by decide +kernel
theorem dL_call_19 : decode cL_call 19 = .ok (.bipush (-112), 2) := by decide +kernel
theorem dL_call_21 : decode cL_call 21 = .ok (.ireturn, 1) := by decide +kernel
theorem dL_call_22 : decode cL_call 22 = .ok (.astore 6, 2) := by decide +kernel
theorem dL_call_24 : decode cL_call 24 = .ok (.bipush (-113), 2) := by decide +kernel
theorem dL_call_26 : decode cL_call 26 = .ok (.ireturn, 1) := by decide +kernel
set_option maxRecDepth 20000 in
theorem ggL_does_X6_addIdea : GoodIn wsL_does wsX6_addIdea := goodIn_ca (goodIn_ca (goodIn_r _ [5, 6, 7, 8, 9, 10, 4, 11, 12, 13, 14, 15, 16, 17, 18, 19, 20, 21, 22, 23, 24, 25, 26, 27, 28, 29, 30, 294, 295, 296, 297, 298, 299, 300, 301, 302, 303, 304, 305, 306, 307] (by decide +kernel) (by decide +kernel)) (goodIn_sub (fun _ h => List.mem_cons_of_mem _ (List.mem_append_left _ (List.mem_append_left _ (List.mem_append_right _ h)))) (by decide +kernel))) (goodIn_sub (fun _ h => List.mem_cons_of_mem _ (List.mem_append_left _ (List.mem_append_right _ h))) (by decide +kernel))
set_option maxRecDepth 20000 in
theorem gL_does_X6_addIdea : GoodIn wsL_does (wsV RL 20 RX6 yX6_addIdea wsX6_addIdea) := goodIn_app (goodIn_of _ (by decide +kernel)) ggL_does_X6_addIdea
set_option maxRecDepth 20000 in
theorem ggL_does_X6_link : GoodIn wsL_does wsX6_link := goodIn_ca (goodIn_ca (goodIn_r _ [34, 8, 9, 10, 4, 11, 12, 13, 14, 35, 36, 37, 38, 39, 40, 41, 42, 43, 44, 45, 46, 47, 48, 49, 50, 51, 52, 53, 54, 55, 56, 57, 58, 28, 59, 30, 60, 26, 27, 29, 61, 62, 63, 64, 294, 295, 296, 297, 298, 299, 300, 301, 302, 303, 304, 305, 306, 308, 307] (by decide +kernel) (by decide +kernel)) (goodIn_sub (fun _ h => List.mem_cons_of_mem _ (List.mem_append_left _ (List.mem_append_right _ h))) (by decide +kernel))) (goodIn_sub (fun _ h => List.mem_cons_of_mem _ (List.mem_append_right _ h)) (by decide +kernel))
set_option maxRecDepth 20000 in
theorem gL_does_X6_link : GoodIn wsL_does (wsV RL 26 RX6 yX6_link wsX6_link) := goodIn_app (goodIn_of _ (by decide +kernel)) ggL_does_X6_link
set_option maxRecDepth 20000 in
theorem ggL_does_X6_clear : GoodIn wsL_does wsX6_clear := goodIn_ca (goodIn_r _ [68, 8, 9, 10, 4, 11, 12, 13, 14, 69, 70, 71, 21, 72, 24, 73, 74, 75, 76, 49, 77, 51, 56, 57, 58, 28, 59, 30, 78, 79, 80, 81, 82, 83, 84, 85, 86, 87, 88, 89, 90, 91, 92, 297, 298, 299, 300, 301, 302, 303, 304, 305, 306, 294, 295, 296, 308, 307] (by decide +kernel) (by decide +kernel)) (goodIn_sub (fun _ h => List.mem_cons_of_mem _ (List.mem_append_left _ (List.mem_append_right _ h))) (by decide +kernel))
set_option maxRecDepth 20000 in
theorem gL_does_X6_clear : GoodIn wsL_does (wsV RL 30 RX6 yX6_clear wsX6_clear) := goodIn_app (goodIn_of _ (by decide +kernel)) ggL_does_X6_clear
set_option maxRecDepth 20000 in
theorem ggL_does_X6_synonyms : GoodIn wsL_does wsX6_synonyms := goodIn_ca (goodIn_r _ [96, 97, 15, 16, 4, 17, 12, 13, 98, 99, 100, 101, 102, 103, 104, 57, 58, 28, 59, 30, 105, 106, 107, 108, 109, 26, 27, 29, 297, 298, 299, 300, 301, 302, 303, 304, 305, 306, 309, 307] (by decide +kernel) (by decide +kernel)) (goodIn_sub (fun _ h => List.mem_cons_of_mem _ (List.mem_append_left _ (List.mem_append_right _ h))) (by decide +kernel))
set_option maxRecDepth 20000 in
theorem gL_does_X6_synonyms : GoodIn wsL_does (wsV RL 34 RX6 yX6_synonyms wsX6_synonyms) := goodIn_app (goodIn_of _ (by decide +kernel)) ggL_does_X6_synonyms
set_option maxRecDepth 20000 in
theorem ggL_does_X6_chain : GoodIn wsL_does wsX6_chain := goodIn_ca (goodIn_r _ [113, 114, 43, 44, 4, 45, 38, 39, 115, 116, 117, 118, 119, 120, 121, 57, 58, 28, 59, 30, 122, 26, 27, 29, 297, 298, 299, 300, 301, 302, 303, 304, 305, 306, 310, 307] (by decide +kernel) (by decide +kernel)) (goodIn_sub (fun _ h => List.mem_cons_of_mem _ (List.mem_append_right _ h)) (by decide +kernel))
set_option maxRecDepth 20000 in
theorem gL_does_X6_chain : GoodIn wsL_does (wsV RL 38 RX6 yX6_chain wsX6_chain) := goodIn_app (goodIn_of _ (by decide +kernel)) ggL_does_X6_chain
set_option maxRecDepth 20000 in
theorem ggL_does_X6_ideas : GoodIn wsL_does wsX6_ideas := goodIn_ca (goodIn_r _ [126, 8, 9, 10, 4, 11, 12, 13, 14, 294, 295, 296, 297, 298, 299, 300, 301, 302, 303, 304, 305, 306] (by decide +kernel) (by decide +kernel)) (goodIn_sub (fun _ h => List.mem_cons_of_mem _ (List.mem_append_left _ (List.mem_append_right _ h))) (by decide +kernel))
set_option maxRecDepth 20000 in
theorem gL_does_X6_ideas : GoodIn wsL_does (wsV RL 42 RX6 yX6_ideas wsX6_ideas) := goodIn_app (goodIn_of _ (by decide +kernel)) ggL_does_X6_ideas
set_option maxRecDepth 20000 in
theorem ggL_does_X6_links : GoodIn wsL_does wsX6_links := goodIn_ca (goodIn_r _ [130, 8, 9, 10, 4, 11, 12, 13, 14, 131, 75, 76, 49, 77, 51, 56, 57, 58, 28, 59, 30, 78, 79, 80, 81, 82, 83, 84, 294, 295, 296, 297, 298, 299, 300, 301, 302, 303, 304, 305, 306, 308, 307] (by decide +kernel) (by decide +kernel)) (goodIn_sub (fun _ h => List.mem_cons_of_mem _ (List.mem_append_left _ (List.mem_append_right _ h))) (by decide +kernel))
set_option maxRecDepth 20000 in
theorem gL_does_X6_links : GoodIn wsL_does (wsV RL 45 RX6 yX6_links wsX6_links) := goodIn_app (goodIn_of _ (by decide +kernel)) ggL_does_X6_links
set_option maxRecDepth 20000 in
theorem ggL_does_X6_held : GoodIn wsL_does wsX6_held := goodIn_ca (goodIn_r _ [135, 136, 114, 8, 9, 10, 4, 11, 12, 13, 14, 137, 138, 139, 49, 140, 51, 141, 142, 143, 28, 144, 30, 145, 57, 58, 59, 146, 147, 148, 149, 150, 151, 152, 153, 52, 53, 54, 55, 56, 154, 155, 156, 118, 157, 120, 121, 158, 159, 160, 161, 60, 26, 27, 29, 131, 75, 76, 77, 78, 79, 80, 81, 82, 83, 84, 297, 298, 299, 300, 301, 302, 303, 304, 305, 306, 294, 295, 296, 308, 307, 310] (by decide +kernel) (by decide +kernel)) (goodIn_sub (fun _ h => List.mem_cons_of_mem _ (List.mem_append_left _ (List.mem_append_right _ h))) (by decide +kernel))
set_option maxRecDepth 20000 in
theorem gL_does_X6_held : GoodIn wsL_does (wsV RL 48 RX6 yX6_held wsX6_held) := goodIn_app (goodIn_of _ (by decide +kernel)) ggL_does_X6_held
set_option maxRecDepth 20000 in
theorem ggL_does_X6_holds : GoodIn wsL_does wsX6_holds := goodIn_ca (goodIn_ca (goodIn_r _ [165, 136, 114, 8, 9, 10, 4, 11, 12, 13, 14, 35, 36, 37, 38, 39, 40, 41, 42, 43, 44, 45, 137, 138, 139, 49, 140, 51, 141, 142, 143, 28, 144, 30, 145, 57, 58, 59, 146, 147, 148, 149, 150, 151, 152, 153, 52, 53, 54, 55, 56, 154, 155, 156, 118, 157, 120, 121, 158, 159, 160, 161, 60, 26, 27, 29, 166, 62, 63, 64, 297, 298, 299, 300, 301, 302, 303, 304, 305, 306, 294, 295, 296, 308, 307, 310] (by decide +kernel) (by decide +kernel)) (goodIn_sub (fun _ h => List.mem_cons_of_mem _ (List.mem_append_left _ (List.mem_append_right _ h))) (by decide +kernel))) (goodIn_sub (fun _ h => List.mem_cons_of_mem _ (List.mem_append_right _ h)) (by decide +kernel))
set_option maxRecDepth 20000 in
theorem gL_does_X6_holds : GoodIn wsL_does (wsV RL 51 RX6 yX6_holds wsX6_holds) := goodIn_app (goodIn_of _ (by decide +kernel)) ggL_does_X6_holds
set_option maxRecDepth 20000 in
theorem ggL_does_X6_points : GoodIn wsL_does wsX6_points := goodIn_ca (goodIn_r _ [170, 171, 172, 173, 174, 4, 175, 12, 13, 8, 9, 10, 11, 14, 176, 177, 178, 179, 136, 180, 114, 97, 137, 138, 139, 49, 140, 51, 141, 142, 143, 28, 144, 30, 145, 57, 58, 59, 146, 147, 148, 149, 150, 151, 152, 153, 52, 53, 54, 55, 56, 154, 155, 156, 118, 157, 120, 121, 158, 159, 160, 161, 60, 26, 27, 29, 181, 182, 183, 184, 185, 186, 187, 188, 189, 190, 99, 100, 101, 102, 103, 104, 191, 192, 193, 194, 195, 196, 197, 198, 199, 200, 201, 202, 203, 204, 205, 206, 207, 208, 209, 210, 211, 212, 213, 79, 80, 81, 82, 83, 84, 214, 215, 216, 217, 218, 219, 220, 221, 222, 223, 224, 225, 226, 227, 228, 229, 230, 231, 297, 298, 299, 300, 301, 302, 303, 304, 305, 306, 294, 295, 296, 308, 307, 310, 311, 312, 313, 314, 315, 316, 317, 318, 309] (by decide +kernel) (by decide +kernel)) (goodIn_sub (fun _ h => List.mem_cons_of_mem _ (List.mem_append_left _ (List.mem_append_right _ h))) (by decide +kernel))
set_option maxRecDepth 20000 in
theorem gL_does_X6_points : GoodIn wsL_does (wsV RL 54 RX6 yX6_points wsX6_points) := goodIn_app (goodIn_of _ (by decide +kernel)) ggL_does_X6_points
set_option maxRecDepth 20000 in
theorem ggL_does_X6_pointsByTrying : GoodIn wsL_does wsX6_pointsByTrying := goodIn_ca (goodIn_r _ [235, 171, 172, 173, 174, 4, 175, 12, 13, 8, 9, 10, 11, 14, 176, 177, 178, 179, 136, 180, 114, 97, 137, 138, 139, 49, 140, 51, 141, 142, 143, 28, 144, 30, 145, 57, 58, 59, 146, 147, 148, 149, 150, 151, 152, 153, 52, 53, 54, 55, 56, 154, 155, 156, 118, 157, 120, 121, 158, 159, 160, 161, 60, 26, 27, 29, 181, 182, 183, 184, 185, 186, 187, 188, 189, 190, 99, 100, 101, 102, 103, 104, 191, 192, 193, 194, 195, 196, 197, 198, 199, 200, 201, 202, 203, 204, 205, 206, 207, 208, 209, 210, 211, 212, 213, 79, 80, 81, 82, 83, 84, 214, 215, 216, 236, 237, 238, 239, 240, 241, 242, 226, 228, 229, 230, 231, 297, 298, 299, 300, 301, 302, 303, 304, 305, 306, 294, 295, 296, 308, 307, 310, 311, 312, 313, 314, 315, 316, 317, 318, 309] (by decide +kernel) (by decide +kernel)) (goodIn_sub (fun _ h => List.mem_cons_of_mem _ (List.mem_append_left _ (List.mem_append_right _ h))) (by decide +kernel))
set_option maxRecDepth 20000 in
theorem gL_does_X6_pointsByTrying : GoodIn wsL_does (wsV RL 57 RX6 yX6_pointsByTrying wsX6_pointsByTrying) := goodIn_app (goodIn_of _ (by decide +kernel)) ggL_does_X6_pointsByTrying
set_option maxRecDepth 20000 in
theorem ggL_does_X6_mark : GoodIn wsL_does wsX6_mark := goodIn_ca (goodIn_r _ [246, 172, 173, 174, 4, 175, 12, 13, 8, 9, 10, 11, 14, 247, 248, 249, 250, 171, 131, 75, 76, 49, 77, 51, 56, 57, 58, 28, 59, 30, 78, 79, 80, 81, 82, 83, 84, 176, 177, 178, 179, 136, 180, 114, 97, 137, 138, 139, 140, 141, 142, 143, 144, 145, 146, 147, 148, 149, 150, 151, 152, 153, 52, 53, 54, 55, 154, 155, 156, 118, 157, 120, 121, 158, 159, 160, 161, 60, 26, 27, 29, 181, 182, 183, 184, 185, 186, 187, 188, 189, 190, 99, 100, 101, 102, 103, 104, 191, 192, 193, 194, 195, 196, 197, 198, 199, 200, 201, 202, 203, 204, 205, 206, 207, 208, 209, 210, 211, 212, 213, 214, 215, 216, 217, 218, 219, 220, 221, 222, 223, 224, 225, 226, 227, 228, 229, 230, 231, 297, 298, 299, 300, 301, 302, 303, 304, 305, 306, 294, 295, 296, 308, 307, 310, 311, 312, 313, 314, 315, 316, 317, 318, 309] (by decide +kernel) (by decide +kernel)) (goodIn_sub (fun _ h => List.mem_cons_of_mem _ (List.mem_append_left _ (List.mem_append_right _ h))) (by decide +kernel))
set_option maxRecDepth 20000 in
theorem gL_does_X6_mark : GoodIn wsL_does (wsV RL 60 RX6 yX6_mark wsX6_mark) := goodIn_app (goodIn_of _ (by decide +kernel)) ggL_does_X6_mark
set_option maxRecDepth 20000 in
theorem ggL_does_X6_matchOf : GoodIn wsL_does wsX6_matchOf := goodIn_ca (goodIn_r _ [254, 180, 171, 172, 173, 174, 4, 175, 12, 13, 8, 9, 10, 11, 14, 40, 41, 42, 176, 177, 178, 179, 136, 114, 97, 137, 138, 139, 49, 140, 51, 141, 142, 143, 28, 144, 30, 145, 57, 58, 59, 146, 147, 148, 149, 150, 151, 152, 153, 52, 53, 54, 55, 56, 154, 155, 156, 118, 157, 120, 121, 158, 159, 160, 161, 60, 26, 27, 29, 181, 182, 183, 184, 185, 186, 187, 188, 189, 190, 99, 100, 101, 102, 103, 104, 191, 192, 193, 194, 195, 196, 197, 198, 199, 200, 201, 202, 203, 204, 205, 206, 207, 208, 209, 210, 211, 212, 213, 79, 80, 81, 82, 83, 84, 214, 215, 216, 217, 218, 219, 220, 221, 222, 223, 224, 225, 226, 227, 228, 229, 230, 231, 255, 297, 298, 299, 300, 301, 302, 303, 304, 305, 306, 311, 312, 313, 314, 315, 316, 317, 318, 294, 295, 296, 308, 307, 310, 309] (by decide +kernel) (by decide +kernel)) (goodIn_sub (fun _ h => List.mem_cons_of_mem _ (List.mem_append_left _ (List.mem_append_right _ h))) (by decide +kernel))
set_option maxRecDepth 20000 in
theorem gL_does_X6_matchOf : GoodIn wsL_does (wsV RL 63 RX6 yX6_matchOf wsX6_matchOf) := goodIn_app (goodIn_of _ (by decide +kernel)) ggL_does_X6_matchOf
set_option maxRecDepth 20000 in
theorem ggL_does_X6_verdict : GoodIn wsL_does wsX6_verdict := goodIn_ca (goodIn_ca (goodIn_ca (goodIn_r _ [259, 6, 7, 171, 136, 180, 172, 173, 174, 4, 175, 12, 13, 8, 9, 10, 11, 14, 35, 36, 37, 38, 39, 40, 41, 42, 43, 44, 45, 166, 62, 63, 49, 64, 52, 53, 54, 55, 51, 56, 57, 58, 28, 59, 30, 176, 177, 178, 179, 114, 97, 137, 138, 139, 140, 141, 142, 143, 144, 145, 146, 147, 148, 149, 150, 151, 152, 153, 154, 155, 156, 118, 157, 120, 121, 158, 159, 160, 161, 60, 26, 27, 29, 181, 182, 183, 184, 185, 186, 187, 188, 189, 190, 99, 100, 101, 102, 103, 104, 191, 192, 193, 194, 195, 196, 197, 198, 199, 200, 201, 202, 203, 204, 205, 206, 207, 208, 209, 210, 211, 212, 213, 79, 80, 81, 82, 83, 84, 214, 215, 216, 217, 218, 219, 220, 221, 222, 223, 224, 225, 226, 227, 228, 229, 230, 231, 260, 261, 262, 263, 264, 265, 266, 267, 268, 294, 295, 296, 297, 298, 299, 300, 301, 302, 303, 304, 305, 306, 308, 307, 310, 311, 312, 313, 314, 315, 316, 317, 318, 309] (by decide +kernel) (by decide +kernel)) (goodIn_sub (fun _ h => List.mem_cons_of_mem _ (List.mem_append_left _ (List.mem_append_left _ (List.mem_append_right _ h)))) (by decide +kernel))) (goodIn_sub (fun _ h => List.mem_cons_of_mem _ (List.mem_append_left _ (List.mem_append_right _ h))) (by decide +kernel))) (goodIn_sub (fun _ h => List.mem_cons_of_mem _ (List.mem_append_right _ h)) (by decide +kernel))
set_option maxRecDepth 20000 in
theorem gL_does_X6_verdict : GoodIn wsL_does (wsV RL 66 RX6 yX6_verdict wsX6_verdict) := goodIn_app (goodIn_of _ (by decide +kernel)) ggL_does_X6_verdict
set_option maxRecDepth 20000 in
theorem ggL_does_X6_lacking : GoodIn wsL_does wsX6_lacking := goodIn_ca (goodIn_r _ [272, 171, 172, 173, 174, 4, 175, 12, 13, 8, 9, 10, 11, 14, 176, 177, 178, 179, 136, 180, 114, 97, 137, 138, 139, 49, 140, 51, 141, 142, 143, 28, 144, 30, 145, 57, 58, 59, 146, 147, 148, 149, 150, 151, 152, 153, 52, 53, 54, 55, 56, 154, 155, 156, 118, 157, 120, 121, 158, 159, 160, 161, 60, 26, 27, 29, 181, 182, 183, 184, 185, 186, 187, 188, 189, 190, 99, 100, 101, 102, 103, 104, 191, 192, 193, 194, 195, 196, 197, 198, 199, 200, 201, 202, 203, 204, 205, 206, 207, 208, 209, 210, 211, 212, 213, 79, 80, 81, 82, 83, 84, 214, 215, 216, 217, 218, 219, 220, 221, 222, 223, 224, 225, 226, 227, 228, 229, 230, 231, 260, 261, 262, 263, 297, 298, 299, 300, 301, 302, 303, 304, 305, 306, 294, 295, 296, 308, 307, 310, 311, 312, 313, 314, 315, 316, 317, 318, 309] (by decide +kernel) (by decide +kernel)) (goodIn_sub (fun _ h => List.mem_cons_of_mem _ (List.mem_append_left _ (List.mem_append_right _ h))) (by decide +kernel))
set_option maxRecDepth 20000 in
theorem gL_does_X6_lacking : GoodIn wsL_does (wsV RL 70 RX6 yX6_lacking wsX6_lacking) := goodIn_app (goodIn_of _ (by decide +kernel)) ggL_does_X6_lacking
set_option maxRecDepth 20000 in
theorem ggL_does_X6_hint : GoodIn wsL_does wsX6_hint := goodIn_ca (goodIn_r _ [276, 277, 172, 173, 174, 4, 175, 12, 13, 8, 9, 10, 11, 14, 278, 279, 280, 281, 171, 282, 180, 283, 284, 176, 177, 178, 179, 136, 114, 97, 137, 138, 139, 49, 140, 51, 141, 142, 143, 28, 144, 30, 145, 57, 58, 59, 146, 147, 148, 149, 150, 151, 152, 153, 52, 53, 54, 55, 56, 154, 155, 156, 118, 157, 120, 121, 158, 159, 160, 161, 60, 26, 27, 29, 181, 182, 183, 184, 185, 186, 187, 188, 189, 190, 99, 100, 101, 102, 103, 104, 191, 192, 193, 194, 195, 196, 197, 198, 199, 200, 201, 202, 203, 204, 205, 206, 207, 208, 209, 210, 211, 212, 213, 79, 80, 81, 82, 83, 84, 214, 215, 216, 217, 218, 219, 220, 221, 222, 223, 224, 225, 226, 227, 228, 229, 230, 231, 166, 62, 63, 64, 285, 286, 287, 288, 289, 297, 298, 299, 300, 301, 302, 303, 304, 305, 306, 294, 295, 296, 308, 307, 310, 311, 312, 313, 314, 315, 316, 317, 318, 309] (by decide +kernel) (by decide +kernel)) (goodIn_sub (fun _ h => List.mem_cons_of_mem _ (List.mem_append_left _ (List.mem_append_right _ h))) (by decide +kernel))
set_option maxRecDepth 20000 in
theorem gL_does_X6_hint : GoodIn wsL_does (wsV RL 73 RX6 yX6_hint wsX6_hint) := goodIn_app (goodIn_of _ (by decide +kernel)) ggL_does_X6_hint
set_option maxRecDepth 20000 in
theorem ggL_does_X6_gain : GoodIn wsL_does wsX6_gain := goodIn_ca (goodIn_r _ [293, 282, 172, 173, 174, 4, 175, 12, 13, 8, 9, 10, 11, 14, 278, 279, 280, 281, 171, 277, 180, 283, 284, 176, 177, 178, 179, 136, 114, 97, 137, 138, 139, 49, 140, 51, 141, 142, 143, 28, 144, 30, 145, 57, 58, 59, 146, 147, 148, 149, 150, 151, 152, 153, 52, 53, 54, 55, 56, 154, 155, 156, 118, 157, 120, 121, 158, 159, 160, 161, 60, 26, 27, 29, 181, 182, 183, 184, 185, 186, 187, 188, 189, 190, 99, 100, 101, 102, 103, 104, 191, 192, 193, 194, 195, 196, 197, 198, 199, 200, 201, 202, 203, 204, 205, 206, 207, 208, 209, 210, 211, 212, 213, 79, 80, 81, 82, 83, 84, 214, 215, 216, 217, 218, 219, 220, 221, 222, 223, 224, 225, 226, 227, 228, 229, 230, 231, 166, 62, 63, 64, 285, 286, 287, 288, 289, 297, 298, 299, 300, 301, 302, 303, 304, 305, 306, 294, 295, 296, 308, 307, 310, 311, 312, 313, 314, 315, 316, 317, 318, 309] (by decide +kernel) (by decide +kernel)) (goodIn_sub (fun _ h => List.mem_cons_of_mem _ (List.mem_append_left _ (List.mem_append_right _ h))) (by decide +kernel))
set_option maxRecDepth 20000 in
theorem gL_does_X6_gain : GoodIn wsL_does (wsV RL 76 RX6 yX6_gain wsX6_gain) := goodIn_app (goodIn_of _ (by decide +kernel)) ggL_does_X6_gain
theorem dL_does_0 : decode cL_does 0 = .ok (.iload_n 1, 1) := by decide +kernel
theorem dL_does_1 : decode cL_does 1 = .ok (.tableswitch 220 0 15 #[79, 86, 105, 111, 126, 135, 141, 147, 153, 172, 178, 184, 190, 197, 208, 214], 79) := by decide +kernel
theorem dL_does_80 : decode cL_does 80 = .ok (.aload_n 0, 1) := by decide +kernel
theorem dL_does_81 : decode cL_does 81 = .ok (.iload_n 2, 1) := by decide +kernel
theorem dL_does_82 : decode cL_does 82 = .ok (.iload_n 3, 1) := by decide +kernel
theorem dL_does_83 : decode cL_does 83 = .ok (.invokevirtual 20, 3) := by decide +kernel
theorem dL_does_86 : decode cL_does 86 = .ok (.ireturn, 1) := by decide +kernel
theorem dL_does_87 : decode cL_does 87 = .ok (.aload_n 0, 1) := by decide +kernel
theorem dL_does_88 : decode cL_does 88 = .ok (.iload_n 2, 1) := by decide +kernel
theorem dL_does_89 : decode cL_does 89 = .ok (.iload_n 3, 1) := by decide +kernel
theorem dL_does_90 : decode cL_does 90 = .ok (.iload 4, 2) := by decide +kernel
theorem dL_does_92 : decode cL_does 92 = .ok (.iload 5, 2) := by decide +kernel
theorem dL_does_94 : decode cL_does 94 = .ok (.invokevirtual 26, 3) := by decide +kernel
theorem dL_does_97 : decode cL_does 97 = .ok (.ifCond .eq 7, 3) := by decide +kernel
theorem dL_does_100 : decode cL_does 100 = .ok (.iconst 1, 1) := by decide +kernel
theorem dL_does_101 : decode cL_does 101 = .ok (.goto 4, 3) := by decide +kernel
theorem dL_does_104 : decode cL_does 104 = .ok (.iconst 0, 1) := by decide +kernel
theorem dL_does_105 : decode cL_does 105 = .ok (.ireturn, 1) := by decide +kernel
theorem dL_does_106 : decode cL_does 106 = .ok (.aload_n 0, 1) := by decide +kernel
theorem dL_does_107 : decode cL_does 107 = .ok (.iload_n 2, 1) := by decide +kernel
theorem dL_does_108 : decode cL_does 108 = .ok (.invokevirtual 30, 3) := by decide +kernel
theorem dL_does_111 : decode cL_does 111 = .ok (.ireturn, 1) := by decide +kernel
theorem dL_does_112 : decode cL_does 112 = .ok (.aload_n 0, 1) := by decide +kernel
theorem dL_does_113 : decode cL_does 113 = .ok (.iload_n 2, 1) := by decide +kernel
theorem dL_does_114 : decode cL_does 114 = .ok (.iload_n 3, 1) := by decide +kernel
theorem dL_does_115 : decode cL_does 115 = .ok (.invokevirtual 34, 3) := by decide +kernel
theorem dL_does_118 : decode cL_does 118 = .ok (.ifCond .eq 7, 3) := by decide +kernel
theorem dL_does_121 : decode cL_does 121 = .ok (.iconst 1, 1) := by decide +kernel
theorem dL_does_122 : decode cL_does 122 = .ok (.goto 4, 3) := by decide +kernel
theorem dL_does_125 : decode cL_does 125 = .ok (.iconst 0, 1) := by decide +kernel
theorem dL_does_126 : decode cL_does 126 = .ok (.ireturn, 1) := by decide +kernel
theorem dL_does_127 : decode cL_does 127 = .ok (.aload_n 0, 1) := by decide +kernel
theorem dL_does_128 : decode cL_does 128 = .ok (.iload_n 2, 1) := by decide +kernel
theorem dL_does_129 : decode cL_does 129 = .ok (.iload_n 3, 1) := by decide +kernel
theorem dL_does_130 : decode cL_does 130 = .ok (.iload 4, 2) := by decide +kernel
theorem dL_does_132 : decode cL_does 132 = .ok (.invokevirtual 38, 3) := by decide +kernel
theorem dL_does_135 : decode cL_does 135 = .ok (.ireturn, 1) := by decide +kernel
theorem dL_does_136 : decode cL_does 136 = .ok (.aload_n 0, 1) := by decide +kernel
theorem dL_does_137 : decode cL_does 137 = .ok (.iload_n 2, 1) := by decide +kernel
theorem dL_does_138 : decode cL_does 138 = .ok (.invokevirtual 42, 3) := by decide +kernel
theorem dL_does_141 : decode cL_does 141 = .ok (.ireturn, 1) := by decide +kernel
theorem dL_does_142 : decode cL_does 142 = .ok (.aload_n 0, 1) := by decide +kernel
theorem dL_does_143 : decode cL_does 143 = .ok (.iload_n 2, 1) := by decide +kernel
theorem dL_does_144 : decode cL_does 144 = .ok (.invokevirtual 45, 3) := by decide +kernel
theorem dL_does_147 : decode cL_does 147 = .ok (.ireturn, 1) := by decide +kernel
theorem dL_does_148 : decode cL_does 148 = .ok (.aload_n 0, 1) := by decide +kernel
theorem dL_does_149 : decode cL_does 149 = .ok (.iload_n 2, 1) := by decide +kernel
theorem dL_does_150 : decode cL_does 150 = .ok (.invokevirtual 48, 3) := by decide +kernel
theorem dL_does_153 : decode cL_does 153 = .ok (.ireturn, 1) := by decide +kernel
theorem dL_does_154 : decode cL_does 154 = .ok (.aload_n 0, 1) := by decide +kernel
theorem dL_does_155 : decode cL_does 155 = .ok (.iload_n 2, 1) := by decide +kernel
theorem dL_does_156 : decode cL_does 156 = .ok (.iload_n 3, 1) := by decide +kernel
theorem dL_does_157 : decode cL_does 157 = .ok (.iload 4, 2) := by decide +kernel
theorem dL_does_159 : decode cL_does 159 = .ok (.iload 5, 2) := by decide +kernel
theorem dL_does_161 : decode cL_does 161 = .ok (.invokevirtual 51, 3) := by decide +kernel
theorem dL_does_164 : decode cL_does 164 = .ok (.ifCond .eq 7, 3) := by decide +kernel
theorem dL_does_167 : decode cL_does 167 = .ok (.iconst 1, 1) := by decide +kernel
theorem dL_does_168 : decode cL_does 168 = .ok (.goto 4, 3) := by decide +kernel
theorem dL_does_171 : decode cL_does 171 = .ok (.iconst 0, 1) := by decide +kernel
theorem dL_does_172 : decode cL_does 172 = .ok (.ireturn, 1) := by decide +kernel
theorem dL_does_173 : decode cL_does 173 = .ok (.aload_n 0, 1) := by decide +kernel
theorem dL_does_174 : decode cL_does 174 = .ok (.iload_n 2, 1) := by decide +kernel
theorem dL_does_175 : decode cL_does 175 = .ok (.invokevirtual 54, 3) := by decide +kernel
theorem dL_does_178 : decode cL_does 178 = .ok (.ireturn, 1) := by decide +kernel
theorem dL_does_179 : decode cL_does 179 = .ok (.aload_n 0, 1) := by decide +kernel
theorem dL_does_180 : decode cL_does 180 = .ok (.iload_n 2, 1) := by decide +kernel
theorem dL_does_181 : decode cL_does 181 = .ok (.invokevirtual 57, 3) := by decide +kernel
theorem dL_does_184 : decode cL_does 184 = .ok (.ireturn, 1) := by decide +kernel
theorem dL_does_185 : decode cL_does 185 = .ok (.aload_n 0, 1) := by decide +kernel
theorem dL_does_186 : decode cL_does 186 = .ok (.iload_n 2, 1) := by decide +kernel
theorem dL_does_187 : decode cL_does 187 = .ok (.invokevirtual 60, 3) := by decide +kernel
theorem dL_does_190 : decode cL_does 190 = .ok (.ireturn, 1) := by decide +kernel
theorem dL_does_191 : decode cL_does 191 = .ok (.aload_n 0, 1) := by decide +kernel
theorem dL_does_192 : decode cL_does 192 = .ok (.iload_n 2, 1) := by decide +kernel
theorem dL_does_193 : decode cL_does 193 = .ok (.iload_n 3, 1) := by decide +kernel
theorem dL_does_194 : decode cL_does 194 = .ok (.invokevirtual 63, 3) := by decide +kernel
theorem dL_does_197 : decode cL_does 197 = .ok (.ireturn, 1) := by decide +kernel
theorem dL_does_198 : decode cL_does 198 = .ok (.aload_n 0, 1) := by decide +kernel
theorem dL_does_199 : decode cL_does 199 = .ok (.iload_n 2, 1) := by decide +kernel
theorem dL_does_200 : decode cL_does 200 = .ok (.iload_n 3, 1) := by decide +kernel
theorem dL_does_201 : decode cL_does 201 = .ok (.iload 4, 2) := by decide +kernel
theorem dL_does_203 : decode cL_does 203 = .ok (.iload 5, 2) := by decide +kernel
theorem dL_does_205 : decode cL_does 205 = .ok (.invokevirtual 66, 3) := by decide +kernel
theorem dL_does_208 : decode cL_does 208 = .ok (.ireturn, 1) := by decide +kernel
theorem dL_does_209 : decode cL_does 209 = .ok (.aload_n 0, 1) := by decide +kernel
theorem dL_does_210 : decode cL_does 210 = .ok (.iload_n 2, 1) := by decide +kernel
theorem dL_does_211 : decode cL_does 211 = .ok (.invokevirtual 70, 3) := by decide +kernel
theorem dL_does_214 : decode cL_does 214 = .ok (.ireturn, 1) := by decide +kernel
theorem dL_does_215 : decode cL_does 215 = .ok (.aload_n 0, 1) := by decide +kernel
theorem dL_does_216 : decode cL_does 216 = .ok (.iload_n 2, 1) := by decide +kernel
theorem dL_does_217 : decode cL_does 217 = .ok (.invokevirtual 73, 3) := by decide +kernel
theorem dL_does_220 : decode cL_does 220 = .ok (.ireturn, 1) := by decide +kernel
theorem dL_does_221 : decode cL_does 221 = .ok (.aload_n 0, 1) := by decide +kernel
theorem dL_does_222 : decode cL_does 222 = .ok (.iload_n 2, 1) := by decide +kernel
theorem dL_does_223 : decode cL_does 223 = .ok (.invokevirtual 76, 3) := by decide +kernel
theorem dL_does_226 : decode cL_does 226 = .ok (.ireturn, 1) := by decide +kernel
set_option maxRecDepth 20000 in
theorem ggL_all_X6_ideas : GoodIn wsL_all wsX6_ideas := goodIn_ca (goodIn_r _ [8, 9, 10, 11, 7, 12, 13, 14, 15, 161, 162, 163, 164, 165, 166, 167, 168, 169, 170, 171, 172, 173] (by decide +kernel) (by decide +kernel)) (goodIn_sub (fun _ h => List.mem_cons_of_mem _ (List.mem_append_right _ h)) (by decide +kernel))
set_option maxRecDepth 20000 in
theorem gL_all_X6_ideas : GoodIn wsL_all (wsV RL 42 RX6 yX6_ideas wsX6_ideas) := goodIn_app (goodIn_of _ (by decide +kernel)) ggL_all_X6_ideas
set_option maxRecDepth 20000 in
theorem ggL_all_X6_links : GoodIn wsL_all wsX6_links := goodIn_ca (goodIn_r _ [19, 9, 10, 11, 7, 12, 13, 14, 15, 20, 21, 22, 23, 24, 25, 26, 27, 28, 29, 30, 31, 32, 33, 34, 35, 36, 37, 38, 161, 162, 163, 164, 165, 166, 167, 168, 169, 170, 171, 172, 173, 174, 175] (by decide +kernel) (by decide +kernel)) (goodIn_sub (fun _ h => List.mem_cons_of_mem _ (List.mem_append_right _ h)) (by decide +kernel))
set_option maxRecDepth 20000 in
theorem gL_all_X6_links : GoodIn wsL_all (wsV RL 45 RX6 yX6_links wsX6_links) := goodIn_app (goodIn_of _ (by decide +kernel)) ggL_all_X6_links
set_option maxRecDepth 20000 in
theorem ggL_all_X6_held : GoodIn wsL_all wsX6_held := goodIn_ca (goodIn_r _ [42, 43, 44, 9, 10, 11, 7, 12, 13, 14, 15, 45, 46, 47, 23, 48, 25, 49, 50, 51, 29, 52, 31, 53, 27, 28, 30, 54, 55, 56, 57, 58, 59, 60, 61, 62, 63, 64, 65, 26, 66, 67, 68, 69, 70, 71, 72, 73, 74, 75, 76, 77, 78, 79, 80, 20, 21, 22, 24, 32, 33, 34, 35, 36, 37, 38, 164, 165, 166, 167, 168, 169, 170, 171, 172, 173, 161, 162, 163, 174, 175, 176] (by decide +kernel) (by decide +kernel)) (goodIn_sub (fun _ h => List.mem_cons_of_mem _ (List.mem_append_right _ h)) (by decide +kernel))
set_option maxRecDepth 20000 in
theorem gL_all_X6_held : GoodIn wsL_all (wsV RL 48 RX6 yX6_held wsX6_held) := goodIn_app (goodIn_of _ (by decide +kernel)) ggL_all_X6_held
set_option maxRecDepth 20000 in
theorem ggL_all_X6_points : GoodIn wsL_all wsX6_points := goodIn_ca (goodIn_r _ [84, 85, 86, 87, 88, 7, 89, 13, 14, 9, 10, 11, 12, 15, 90, 91, 92, 93, 43, 94, 44, 95, 45, 46, 47, 23, 48, 25, 49, 50, 51, 29, 52, 31, 53, 27, 28, 30, 54, 55, 56, 57, 58, 59, 60, 61, 62, 63, 64, 65, 26, 66, 67, 68, 69, 70, 71, 72, 73, 74, 75, 76, 77, 78, 79, 80, 96, 97, 98, 99, 100, 101, 102, 103, 104, 105, 106, 107, 108, 109, 110, 111, 112, 113, 114, 115, 116, 117, 118, 119, 120, 121, 122, 123, 124, 125, 126, 127, 128, 129, 130, 131, 132, 133, 134, 33, 34, 35, 36, 37, 38, 135, 136, 137, 138, 139, 140, 141, 142, 143, 144, 145, 146, 147, 148, 149, 150, 151, 152, 164, 165, 166, 167, 168, 169, 170, 171, 172, 173, 161, 162, 163, 174, 175, 176, 177, 178, 179, 180, 181, 182, 183, 184, 185] (by decide +kernel) (by decide +kernel)) (goodIn_sub (fun _ h => List.mem_cons_of_mem _ (List.mem_append_right _ h)) (by decide +kernel))
set_option maxRecDepth 20000 in
theorem gL_all_X6_points : GoodIn wsL_all (wsV RL 54 RX6 yX6_points wsX6_points) := goodIn_app (goodIn_of _ (by decide +kernel)) ggL_all_X6_points
set_option maxRecDepth 20000 in
theorem ggL_all_X6_lacking : GoodIn wsL_all wsX6_lacking := goodIn_ca (goodIn_r _ [156, 85, 86, 87, 88, 7, 89, 13, 14, 9, 10, 11, 12, 15, 90, 91, 92, 93, 43, 94, 44, 95, 45, 46, 47, 23, 48, 25, 49, 50, 51, 29, 52, 31, 53, 27, 28, 30, 54, 55, 56, 57, 58, 59, 60, 61, 62, 63, 64, 65, 26, 66, 67, 68, 69, 70, 71, 72, 73, 74, 75, 76, 77, 78, 79, 80, 96, 97, 98, 99, 100, 101, 102, 103, 104, 105, 106, 107, 108, 109, 110, 111, 112, 113, 114, 115, 116, 117, 118, 119, 120, 121, 122, 123, 124, 125, 126, 127, 128, 129, 130, 131, 132, 133, 134, 33, 34, 35, 36, 37, 38, 135, 136, 137, 138, 139, 140, 141, 142, 143, 144, 145, 146, 147, 148, 149, 150, 151, 152, 157, 158, 159, 160, 164, 165, 166, 167, 168, 169, 170, 171, 172, 173, 161, 162, 163, 174, 175, 176, 177, 178, 179, 180, 181, 182, 183, 184, 185] (by decide +kernel) (by decide +kernel)) (goodIn_sub (fun _ h => List.mem_cons_of_mem _ (List.mem_append_right _ h)) (by decide +kernel))
set_option maxRecDepth 20000 in
theorem gL_all_X6_lacking : GoodIn wsL_all (wsV RL 70 RX6 yX6_lacking wsX6_lacking) := goodIn_app (goodIn_of _ (by decide +kernel)) ggL_all_X6_lacking
theorem dL_all_0 : decode cL_all 0 = .ok (.ldc2_w 79, 3) := by decide +kernel
theorem dL_all_3 : decode cL_all 3 = .ok (.lstore_n 1, 1) := by decide +kernel
theorem dL_all_4 : decode cL_all 4 = .ok (.iconst 0, 1) := by decide +kernel
theorem dL_all_5 : decode cL_all 5 = .ok (.istore_n 3, 1) := by decide +kernel
theorem dL_all_6 : decode cL_all 6 = .ok (.iload_n 3, 1) := by decide +kernel
theorem dL_all_7 : decode cL_all 7 = .ok (.iconst 4, 1) := by decide +kernel
theorem dL_all_8 : decode cL_all 8 = .ok (.if_icmp .ge 44, 3) := by decide +kernel
theorem dL_all_11 : decode cL_all 11 = .ok (.lload_n 1, 1) := by decide +kernel
theorem dL_all_12 : decode cL_all 12 = .ok (.ldc2_w 79, 3) := by decide +kernel
theorem dL_all_15 : decode cL_all 15 = .ok (.lmul, 1) := by decide +kernel
theorem dL_all_16 : decode cL_all 16 = .ok (.aload_n 0, 1) := by decide +kernel
theorem dL_all_17 : decode cL_all 17 = .ok (.iload_n 3, 1) := by decide +kernel
theorem dL_all_18 : decode cL_all 18 = .ok (.invokevirtual 42, 3) := by decide +kernel
theorem dL_all_21 : decode cL_all 21 = .ok (.i2l, 1) := by decide +kernel
theorem dL_all_22 : decode cL_all 22 = .ok (.ladd, 1) := by decide +kernel
theorem dL_all_23 : decode cL_all 23 = .ok (.ldc2_w 81, 3) := by decide +kernel
theorem dL_all_26 : decode cL_all 26 = .ok (.lmul, 1) := by decide +kernel
theorem dL_all_27 : decode cL_all 27 = .ok (.aload_n 0, 1) := by decide +kernel
theorem dL_all_28 : decode cL_all 28 = .ok (.iload_n 3, 1) := by decide +kernel
theorem dL_all_29 : decode cL_all 29 = .ok (.invokevirtual 45, 3) := by decide +kernel
theorem dL_all_32 : decode cL_all 32 = .ok (.i2l, 1) := by decide +kernel
theorem dL_all_33 : decode cL_all 33 = .ok (.ladd, 1) := by decide +kernel
theorem dL_all_34 : decode cL_all 34 = .ok (.ldc2_w 81, 3) := by decide +kernel
theorem dL_all_37 : decode cL_all 37 = .ok (.lmul, 1) := by decide +kernel
theorem dL_all_38 : decode cL_all 38 = .ok (.aload_n 0, 1) := by decide +kernel
theorem dL_all_39 : decode cL_all 39 = .ok (.iload_n 3, 1) := by decide +kernel
theorem dL_all_40 : decode cL_all 40 = .ok (.invokevirtual 48, 3) := by decide +kernel
theorem dL_all_43 : decode cL_all 43 = .ok (.i2l, 1) := by decide +kernel
theorem dL_all_44 : decode cL_all 44 = .ok (.ladd, 1) := by decide +kernel
theorem dL_all_45 : decode cL_all 45 = .ok (.lstore_n 1, 1) := by decide +kernel
theorem dL_all_46 : decode cL_all 46 = .ok (.iinc 3 1, 3) := by decide +kernel
theorem dL_all_49 : decode cL_all 49 = .ok (.goto (-43), 3) := by decide +kernel
theorem dL_all_52 : decode cL_all 52 = .ok (.iconst 1, 1) := by decide +kernel
theorem dL_all_53 : decode cL_all 53 = .ok (.istore_n 3, 1) := by decide +kernel
theorem dL_all_54 : decode cL_all 54 = .ok (.iload_n 3, 1) := by decide +kernel
theorem dL_all_55 : decode cL_all 55 = .ok (.iconst 3, 1) := by decide +kernel
theorem dL_all_56 : decode cL_all 56 = .ok (.if_icmp .ge 33, 3) := by decide +kernel
theorem dL_all_59 : decode cL_all 59 = .ok (.lload_n 1, 1) := by decide +kernel
theorem dL_all_60 : decode cL_all 60 = .ok (.ldc2_w 83, 3) := by decide +kernel
theorem dL_all_63 : decode cL_all 63 = .ok (.lmul, 1) := by decide +kernel
theorem dL_all_64 : decode cL_all 64 = .ok (.aload_n 0, 1) := by decide +kernel
theorem dL_all_65 : decode cL_all 65 = .ok (.iload_n 3, 1) := by decide +kernel
theorem dL_all_66 : decode cL_all 66 = .ok (.invokevirtual 54, 3) := by decide +kernel
theorem dL_all_69 : decode cL_all 69 = .ok (.i2l, 1) := by decide +kernel
theorem dL_all_70 : decode cL_all 70 = .ok (.ladd, 1) := by decide +kernel
theorem dL_all_71 : decode cL_all 71 = .ok (.ldc2_w 79, 3) := by decide +kernel
theorem dL_all_74 : decode cL_all 74 = .ok (.lmul, 1) := by decide +kernel
theorem dL_all_75 : decode cL_all 75 = .ok (.aload_n 0, 1) := by decide +kernel
theorem dL_all_76 : decode cL_all 76 = .ok (.iload_n 3, 1) := by decide +kernel
theorem dL_all_77 : decode cL_all 77 = .ok (.invokevirtual 70, 3) := by decide +kernel
theorem dL_all_80 : decode cL_all 80 = .ok (.i2l, 1) := by decide +kernel
theorem dL_all_81 : decode cL_all 81 = .ok (.ladd, 1) := by decide +kernel
theorem dL_all_82 : decode cL_all 82 = .ok (.lstore_n 1, 1) := by decide +kernel
theorem dL_all_83 : decode cL_all 83 = .ok (.iinc 3 1, 3) := by decide +kernel
theorem dL_all_86 : decode cL_all 86 = .ok (.goto (-32), 3) := by decide +kernel
theorem dL_all_89 : decode cL_all 89 = .ok (.lload_n 1, 1) := by decide +kernel
theorem dL_all_90 : decode cL_all 90 = .ok (.lreturn, 1) := by decide +kernel
set_option maxRecDepth 20000 in
theorem ggL_adds_X6_ideas : GoodIn wsL_adds wsX6_ideas := goodIn_ca (goodIn_r _ [5, 6, 7, 8, 4, 9, 10, 11, 12, 304, 305, 306, 307, 308, 309, 310, 311, 312, 313, 314, 315, 316] (by decide +kernel) (by decide +kernel)) (goodIn_sub (fun _ h => List.mem_cons_of_mem _ (List.mem_append_left _ (List.mem_append_left _ (List.mem_append_right _ h)))) (by decide +kernel))
set_option maxRecDepth 20000 in
theorem gL_adds_X6_ideas : GoodIn wsL_adds (wsV RL 42 RX6 yX6_ideas wsX6_ideas) := goodIn_app (goodIn_of _ (by decide +kernel)) ggL_adds_X6_ideas
set_option maxRecDepth 20000 in
theorem ggL_adds_L_call : GoodIn wsL_adds wsL_call := goodIn_ca (goodIn_ca (goodIn_ca (goodIn_r _ [16, 17, 18, 19, 20, 21, 15, 22, 23, 24, 25, 4, 26, 27, 28, 6, 7, 8, 9, 10, 11, 12, 29, 30, 31, 32, 33, 34, 35, 36, 37, 38, 39, 40, 41, 42, 43, 44, 45, 46, 47, 48, 49, 50, 51, 52, 53, 54, 55, 56, 57, 58, 59, 60, 61, 62, 63, 64, 65, 66, 67, 68, 69, 70, 71, 72, 73, 74, 75, 76, 77, 78, 79, 80, 81, 82, 83, 84, 85, 86, 87, 88, 89, 90, 91, 92, 93, 94, 95, 96, 97, 98, 99, 100, 101, 102, 103, 104, 105, 106, 107, 108, 109, 110, 111, 112, 113, 114, 115, 116, 117, 118, 119, 120, 121, 122, 123, 124, 125, 126, 127, 128, 129, 130, 131, 132, 133, 134, 135, 136, 1, 2, 3, 5, 137, 138, 139, 140, 141, 142, 143, 144, 145, 146, 147, 148, 149, 150, 151, 152, 153, 154, 155, 156, 157, 158, 159, 160, 161, 162, 163, 164, 165, 166, 167, 168, 169, 170, 171, 172, 173, 174, 175, 176, 177, 178, 179, 180, 181, 182, 183, 184, 185, 186, 187, 188, 189, 190, 191, 192, 193, 194, 195, 196, 197, 198, 199, 200, 201, 202, 203, 204, 205, 206, 207, 208, 209, 210, 211, 212, 213, 214, 215, 216, 217, 218, 219, 220, 221, 222, 223, 224, 225, 226, 227, 228, 229, 230, 231, 232, 233, 234, 235, 236, 237, 238, 239, 240, 241, 242, 243, 244, 245, 246, 247, 248, 249, 250, 251, 252, 253, 254, 255, 256, 257, 258, 259, 260, 261, 262, 263, 264, 265, 266, 267, 268, 269, 270, 271, 272, 273, 274, 275, 276, 277, 278, 279, 280, 281, 282, 283, 284, 285, 286, 287, 288, 289, 290, 291, 292, 293, 294, 295, 296, 297, 298, 299, 300, 301, 302, 303, 304, 305, 306, 307, 308, 309, 310, 311, 312, 313, 314, 315, 316, 317, 318, 319, 320, 321, 322, 323, 324, 325, 326, 327, 328] (by decide +kernel) (by decide +kernel)) (goodIn_sub (fun _ h => List.mem_cons_of_mem _ (List.mem_append_left _ (List.mem_append_right _ h))) (by decide +kernel))) (goodIn_sub (fun _ h => List.mem_cons_of_mem _ (List.mem_append_left _ (List.mem_append_left _ (List.mem_append_right _ h)))) (by decide +kernel))) (goodIn_sub (fun _ h => List.mem_cons_of_mem _ (List.mem_append_right _ h)) (by decide +kernel))
set_option maxRecDepth 20000 in
theorem gL_adds_L_call : GoodIn wsL_adds (va_wsS RL 85 yL_call wsL_call) := goodIn_app (goodIn_of _ (by decide +kernel)) ggL_adds_L_call
set_option maxRecDepth 20000 in
theorem ggL_adds_X6_holds : GoodIn wsL_adds wsX6_holds := goodIn_ca (goodIn_ca (goodIn_r _ [175, 146, 128, 6, 7, 8, 4, 9, 10, 11, 12, 49, 50, 51, 52, 53, 54, 55, 56, 57, 58, 59, 147, 148, 149, 63, 150, 65, 151, 152, 153, 42, 154, 44, 155, 71, 72, 73, 156, 157, 158, 159, 160, 161, 162, 163, 66, 67, 68, 69, 70, 164, 165, 166, 132, 167, 134, 135, 168, 169, 170, 171, 74, 40, 41, 43, 176, 76, 77, 78, 307, 308, 309, 310, 311, 312, 313, 314, 315, 316, 304, 305, 306, 318, 317, 320] (by decide +kernel) (by decide +kernel)) (goodIn_sub (fun _ h => List.mem_cons_of_mem _ (List.mem_append_left _ (List.mem_append_left _ (List.mem_append_right _ h)))) (by decide +kernel))) (goodIn_sub (fun _ h => List.mem_cons_of_mem _ (List.mem_append_right _ h)) (by decide +kernel))
set_option maxRecDepth 20000 in
theorem gL_adds_X6_holds : GoodIn wsL_adds (wsV RL 51 RX6 yX6_holds wsX6_holds) := goodIn_app (goodIn_of _ (by decide +kernel)) ggL_adds_X6_holds
set_option maxRecDepth 20000 in
theorem ggL_adds_X6_points : GoodIn wsL_adds wsX6_points := goodIn_ca (goodIn_r _ [180, 181, 182, 183, 184, 4, 185, 10, 11, 6, 7, 8, 9, 12, 186, 187, 188, 189, 146, 190, 128, 111, 147, 148, 149, 63, 150, 65, 151, 152, 153, 42, 154, 44, 155, 71, 72, 73, 156, 157, 158, 159, 160, 161, 162, 163, 66, 67, 68, 69, 70, 164, 165, 166, 132, 167, 134, 135, 168, 169, 170, 171, 74, 40, 41, 43, 191, 192, 193, 194, 195, 196, 197, 198, 199, 200, 113, 114, 115, 116, 117, 118, 201, 202, 203, 204, 205, 206, 207, 208, 209, 210, 211, 212, 213, 214, 215, 216, 217, 218, 219, 220, 221, 222, 223, 93, 94, 95, 96, 97, 98, 224, 225, 226, 227, 228, 229, 230, 231, 232, 233, 234, 235, 236, 237, 238, 239, 240, 241, 307, 308, 309, 310, 311, 312, 313, 314, 315, 316, 304, 305, 306, 318, 317, 320, 321, 322, 323, 324, 325, 326, 327, 328, 319] (by decide +kernel) (by decide +kernel)) (goodIn_sub (fun _ h => List.mem_cons_of_mem _ (List.mem_append_left _ (List.mem_append_left _ (List.mem_append_right _ h)))) (by decide +kernel))
set_option maxRecDepth 20000 in
theorem gL_adds_X6_points : GoodIn wsL_adds (wsV RL 54 RX6 yX6_points wsX6_points) := goodIn_app (goodIn_of _ (by decide +kernel)) ggL_adds_X6_points
set_option maxRecDepth 20000 in
theorem ggL_adds_X6_links : GoodIn wsL_adds wsX6_links := goodIn_ca (goodIn_r _ [140, 6, 7, 8, 4, 9, 10, 11, 12, 141, 89, 90, 63, 91, 65, 70, 71, 72, 42, 73, 44, 92, 93, 94, 95, 96, 97, 98, 304, 305, 306, 307, 308, 309, 310, 311, 312, 313, 314, 315, 316, 318, 317] (by decide +kernel) (by decide +kernel)) (goodIn_sub (fun _ h => List.mem_cons_of_mem _ (List.mem_append_left _ (List.mem_append_left _ (List.mem_append_right _ h)))) (by decide +kernel))
set_option maxRecDepth 20000 in
theorem gL_adds_X6_links : GoodIn wsL_adds (wsV RL 45 RX6 yX6_links wsX6_links) := goodIn_app (goodIn_of _ (by decide +kernel)) ggL_adds_X6_links
set_option maxRecDepth 20000 in
theorem ggL_adds_X6_pointsByTrying : GoodIn wsL_adds wsX6_pointsByTrying := goodIn_ca (goodIn_r _ [245, 181, 182, 183, 184, 4, 185, 10, 11, 6, 7, 8, 9, 12, 186, 187, 188, 189, 146, 190, 128, 111, 147, 148, 149, 63, 150, 65, 151, 152, 153, 42, 154, 44, 155, 71, 72, 73, 156, 157, 158, 159, 160, 161, 162, 163, 66, 67, 68, 69, 70, 164, 165, 166, 132, 167, 134, 135, 168, 169, 170, 171, 74, 40, 41, 43, 191, 192, 193, 194, 195, 196, 197, 198, 199, 200, 113, 114, 115, 116, 117, 118, 201, 202, 203, 204, 205, 206, 207, 208, 209, 210, 211, 212, 213, 214, 215, 216, 217, 218, 219, 220, 221, 222, 223, 93, 94, 95, 96, 97, 98, 224, 225, 226, 246, 247, 248, 249, 250, 251, 252, 236, 238, 239, 240, 241, 307, 308, 309, 310, 311, 312, 313, 314, 315, 316, 304, 305, 306, 318, 317, 320, 321, 322, 323, 324, 325, 326, 327, 328, 319] (by decide +kernel) (by decide +kernel)) (goodIn_sub (fun _ h => List.mem_cons_of_mem _ (List.mem_append_left _ (List.mem_append_left _ (List.mem_append_right _ h)))) (by decide +kernel))
set_option maxRecDepth 20000 in
theorem gL_adds_X6_pointsByTrying : GoodIn wsL_adds (wsV RL 57 RX6 yX6_pointsByTrying wsX6_pointsByTrying) := goodIn_app (goodIn_of _ (by decide +kernel)) ggL_adds_X6_pointsByTrying
set_option maxRecDepth 20000 in
theorem ggL_adds_X6_mark : GoodIn wsL_adds wsX6_mark := goodIn_ca (goodIn_r _ [256, 182, 183, 184, 4, 185, 10, 11, 6, 7, 8, 9, 12, 257, 258, 259, 260, 181, 141, 89, 90, 63, 91, 65, 70, 71, 72, 42, 73, 44, 92, 93, 94, 95, 96, 97, 98, 186, 187, 188, 189, 146, 190, 128, 111, 147, 148, 149, 150, 151, 152, 153, 154, 155, 156, 157, 158, 159, 160, 161, 162, 163, 66, 67, 68, 69, 164, 165, 166, 132, 167, 134, 135, 168, 169, 170, 171, 74, 40, 41, 43, 191, 192, 193, 194, 195, 196, 197, 198, 199, 200, 113, 114, 115, 116, 117, 118, 201, 202, 203, 204, 205, 206, 207, 208, 209, 210, 211, 212, 213, 214, 215, 216, 217, 218, 219, 220, 221, 222, 223, 224, 225, 226, 227, 228, 229, 230, 231, 232, 233, 234, 235, 236, 237, 238, 239, 240, 241, 307, 308, 309, 310, 311, 312, 313, 314, 315, 316, 304, 305, 306, 318, 317, 320, 321, 322, 323, 324, 325, 326, 327, 328, 319] (by decide +kernel) (by decide +kernel)) (goodIn_sub (fun _ h => List.mem_cons_of_mem _ (List.mem_append_left _ (List.mem_append_left _ (List.mem_append_right _ h)))) (by decide +kernel))
set_option maxRecDepth 20000 in
theorem gL_adds_X6_mark : GoodIn wsL_adds (wsV RL 60 RX6 yX6_mark wsX6_mark) := goodIn_app (goodIn_of _ (by decide +kernel)) ggL_adds_X6_mark
set_option maxRecDepth 20000 in
theorem ggL_adds_X6_held : GoodIn wsL_adds wsX6_held := goodIn_ca (goodIn_r _ [145, 146, 128, 6, 7, 8, 4, 9, 10, 11, 12, 147, 148, 149, 63, 150, 65, 151, 152, 153, 42, 154, 44, 155, 71, 72, 73, 156, 157, 158, 159, 160, 161, 162, 163, 66, 67, 68, 69, 70, 164, 165, 166, 132, 167, 134, 135, 168, 169, 170, 171, 74, 40, 41, 43, 141, 89, 90, 91, 92, 93, 94, 95, 96, 97, 98, 307, 308, 309, 310, 311, 312, 313, 314, 315, 316, 304, 305, 306, 318, 317, 320] (by decide +kernel) (by decide +kernel)) (goodIn_sub (fun _ h => List.mem_cons_of_mem _ (List.mem_append_left _ (List.mem_append_left _ (List.mem_append_right _ h)))) (by decide +kernel))
set_option maxRecDepth 20000 in
theorem gL_adds_X6_held : GoodIn wsL_adds (wsV RL 48 RX6 yX6_held wsX6_held) := goodIn_app (goodIn_of _ (by decide +kernel)) ggL_adds_X6_held
set_option maxRecDepth 20000 in
theorem ggL_adds_X6_matchOf : GoodIn wsL_adds wsX6_matchOf := goodIn_ca (goodIn_r _ [264, 190, 181, 182, 183, 184, 4, 185, 10, 11, 6, 7, 8, 9, 12, 54, 55, 56, 186, 187, 188, 189, 146, 128, 111, 147, 148, 149, 63, 150, 65, 151, 152, 153, 42, 154, 44, 155, 71, 72, 73, 156, 157, 158, 159, 160, 161, 162, 163, 66, 67, 68, 69, 70, 164, 165, 166, 132, 167, 134, 135, 168, 169, 170, 171, 74, 40, 41, 43, 191, 192, 193, 194, 195, 196, 197, 198, 199, 200, 113, 114, 115, 116, 117, 118, 201, 202, 203, 204, 205, 206, 207, 208, 209, 210, 211, 212, 213, 214, 215, 216, 217, 218, 219, 220, 221, 222, 223, 93, 94, 95, 96, 97, 98, 224, 225, 226, 227, 228, 229, 230, 231, 232, 233, 234, 235, 236, 237, 238, 239, 240, 241, 265, 307, 308, 309, 310, 311, 312, 313, 314, 315, 316, 321, 322, 323, 324, 325, 326, 327, 328, 304, 305, 306, 318, 317, 320, 319] (by decide +kernel) (by decide +kernel)) (goodIn_sub (fun _ h => List.mem_cons_of_mem _ (List.mem_append_left _ (List.mem_append_left _ (List.mem_append_right _ h)))) (by decide +kernel))
set_option maxRecDepth 20000 in
theorem gL_adds_X6_matchOf : GoodIn wsL_adds (wsV RL 63 RX6 yX6_matchOf wsX6_matchOf) := goodIn_app (goodIn_of _ (by decide +kernel)) ggL_adds_X6_matchOf
set_option maxRecDepth 20000 in
theorem ggL_adds_X6_lacking : GoodIn wsL_adds wsX6_lacking := goodIn_ca (goodIn_r _ [282, 181, 182, 183, 184, 4, 185, 10, 11, 6, 7, 8, 9, 12, 186, 187, 188, 189, 146, 190, 128, 111, 147, 148, 149, 63, 150, 65, 151, 152, 153, 42, 154, 44, 155, 71, 72, 73, 156, 157, 158, 159, 160, 161, 162, 163, 66, 67, 68, 69, 70, 164, 165, 166, 132, 167, 134, 135, 168, 169, 170, 171, 74, 40, 41, 43, 191, 192, 193, 194, 195, 196, 197, 198, 199, 200, 113, 114, 115, 116, 117, 118, 201, 202, 203, 204, 205, 206, 207, 208, 209, 210, 211, 212, 213, 214, 215, 216, 217, 218, 219, 220, 221, 222, 223, 93, 94, 95, 96, 97, 98, 224, 225, 226, 227, 228, 229, 230, 231, 232, 233, 234, 235, 236, 237, 238, 239, 240, 241, 270, 271, 272, 273, 307, 308, 309, 310, 311, 312, 313, 314, 315, 316, 304, 305, 306, 318, 317, 320, 321, 322, 323, 324, 325, 326, 327, 328, 319] (by decide +kernel) (by decide +kernel)) (goodIn_sub (fun _ h => List.mem_cons_of_mem _ (List.mem_append_left _ (List.mem_append_left _ (List.mem_append_right _ h)))) (by decide +kernel))
set_option maxRecDepth 20000 in
theorem gL_adds_X6_lacking : GoodIn wsL_adds (wsV RL 70 RX6 yX6_lacking wsX6_lacking) := goodIn_app (goodIn_of _ (by decide +kernel)) ggL_adds_X6_lacking
theorem dL_adds_0 : decode cL_adds 0 = .ok (.aload_n 0, 1) := by decide +kernel
theorem dL_adds_1 : decode cL_adds 1 = .ok (.iload_n 1, 1) := by decide +kernel
theorem dL_adds_2 : decode cL_adds 2 = .ok (.invokevirtual 42, 3) := by decide +kernel
theorem dL_adds_5 : decode cL_adds 5 = .ok (.istore_n 2, 1) := by decide +kernel
theorem dL_adds_6 : decode cL_adds 6 = .ok (.iconst 0, 1) := by decide +kernel
theorem dL_adds_7 : decode cL_adds 7 = .ok (.istore_n 3, 1) := by decide +kernel
theorem dL_adds_8 : decode cL_adds 8 = .ok (.iconst 0, 1) := by decide +kernel
theorem dL_adds_9 : decode cL_adds 9 = .ok (.istore 4, 2) := by decide +kernel
theorem dL_adds_11 : decode cL_adds 11 = .ok (.iconst 1, 1) := by decide +kernel
theorem dL_adds_12 : decode cL_adds 12 = .ok (.istore 5, 2) := by decide +kernel
theorem dL_adds_14 : decode cL_adds 14 = .ok (.iconst 0, 1) := by decide +kernel
theorem dL_adds_15 : decode cL_adds 15 = .ok (.istore 6, 2) := by decide +kernel
theorem dL_adds_17 : decode cL_adds 17 = .ok (.iload 6, 2) := by decide +kernel
theorem dL_adds_19 : decode cL_adds 19 = .ok (.iload_n 2, 1) := by decide +kernel
theorem dL_adds_20 : decode cL_adds 20 = .ok (.iload_n 2, 1) := by decide +kernel
theorem dL_adds_21 : decode cL_adds 21 = .ok (.imul, 1) := by decide +kernel
theorem dL_adds_22 : decode cL_adds 22 = .ok (.iconst 4, 1) := by decide +kernel
theorem dL_adds_23 : decode cL_adds 23 = .ok (.imul, 1) := by decide +kernel
theorem dL_adds_24 : decode cL_adds 24 = .ok (.if_icmp .ge 141, 3) := by decide +kernel
theorem dL_adds_27 : decode cL_adds 27 = .ok (.iload 5, 2) := by decide +kernel
theorem dL_adds_29 : decode cL_adds 29 = .ok (.ifCond .eq 136, 3) := by decide +kernel
theorem dL_adds_32 : decode cL_adds 32 = .ok (.iload 6, 2) := by decide +kernel
theorem dL_adds_34 : decode cL_adds 34 = .ok (.iconst 4, 1) := by decide +kernel
theorem dL_adds_35 : decode cL_adds 35 = .ok (.idiv, 1) := by decide +kernel
theorem dL_adds_36 : decode cL_adds 36 = .ok (.iload_n 2, 1) := by decide +kernel
theorem dL_adds_37 : decode cL_adds 37 = .ok (.idiv, 1) := by decide +kernel
theorem dL_adds_38 : decode cL_adds 38 = .ok (.istore 7, 2) := by decide +kernel
theorem dL_adds_40 : decode cL_adds 40 = .ok (.iload 6, 2) := by decide +kernel
theorem dL_adds_42 : decode cL_adds 42 = .ok (.iconst 4, 1) := by decide +kernel
theorem dL_adds_43 : decode cL_adds 43 = .ok (.idiv, 1) := by decide +kernel
theorem dL_adds_44 : decode cL_adds 44 = .ok (.iload_n 2, 1) := by decide +kernel
theorem dL_adds_45 : decode cL_adds 45 = .ok (.irem, 1) := by decide +kernel
theorem dL_adds_46 : decode cL_adds 46 = .ok (.istore 8, 2) := by decide +kernel
theorem dL_adds_48 : decode cL_adds 48 = .ok (.iload 7, 2) := by decide +kernel
theorem dL_adds_50 : decode cL_adds 50 = .ok (.iload 8, 2) := by decide +kernel
theorem dL_adds_52 : decode cL_adds 52 = .ok (.if_icmp .ne 8, 3) := by decide +kernel
theorem dL_adds_55 : decode cL_adds 55 = .ok (.bipush (-113), 2) := by decide +kernel
theorem dL_adds_57 : decode cL_adds 57 = .ok (.goto 18, 3) := by decide +kernel
theorem dL_adds_60 : decode cL_adds 60 = .ok (.aload_n 0, 1) := by decide +kernel
theorem dL_adds_61 : decode cL_adds 61 = .ok (.bipush 13, 2) := by decide +kernel
theorem dL_adds_63 : decode cL_adds 63 = .ok (.iload_n 1, 1) := by decide +kernel
theorem dL_adds_64 : decode cL_adds 64 = .ok (.iload 7, 2) := by decide +kernel
theorem dL_adds_66 : decode cL_adds 66 = .ok (.iload 8, 2) := by decide +kernel
theorem dL_adds_68 : decode cL_adds 68 = .ok (.iload 6, 2) := by decide +kernel
theorem dL_adds_70 : decode cL_adds 70 = .ok (.iconst 4, 1) := by decide +kernel
theorem dL_adds_71 : decode cL_adds 71 = .ok (.irem, 1) := by decide +kernel
theorem dL_adds_72 : decode cL_adds 72 = .ok (.invokestatic 85, 3) := by decide +kernel
theorem dL_adds_75 : decode cL_adds 75 = .ok (.istore 9, 2) := by decide +kernel
theorem dL_adds_77 : decode cL_adds 77 = .ok (.iload 9, 2) := by decide +kernel
theorem dL_adds_79 : decode cL_adds 79 = .ok (.bipush (-113), 2) := by decide +kernel
theorem dL_adds_81 : decode cL_adds 81 = .ok (.if_icmp .eq 30, 3) := by decide +kernel
theorem dL_adds_84 : decode cL_adds 84 = .ok (.iload 9, 2) := by decide +kernel
theorem dL_adds_86 : decode cL_adds 86 = .ok (.ifCond .lt 29, 3) := by decide +kernel
theorem dL_adds_89 : decode cL_adds 89 = .ok (.iload 9, 2) := by decide +kernel
theorem dL_adds_91 : decode cL_adds 91 = .ok (.iconst 4, 1) := by decide +kernel
theorem dL_adds_92 : decode cL_adds 92 = .ok (.if_icmp .ge 23, 3) := by decide +kernel
theorem dL_adds_95 : decode cL_adds 95 = .ok (.aload_n 0, 1) := by decide +kernel
theorem dL_adds_96 : decode cL_adds 96 = .ok (.iload_n 1, 1) := by decide +kernel
theorem dL_adds_97 : decode cL_adds 97 = .ok (.iload 7, 2) := by decide +kernel
theorem dL_adds_99 : decode cL_adds 99 = .ok (.iload 8, 2) := by decide +kernel
theorem dL_adds_101 : decode cL_adds 101 = .ok (.iload 6, 2) := by decide +kernel
theorem dL_adds_103 : decode cL_adds 103 = .ok (.iconst 4, 1) := by decide +kernel
theorem dL_adds_104 : decode cL_adds 104 = .ok (.irem, 1) := by decide +kernel
theorem dL_adds_105 : decode cL_adds 105 = .ok (.invokevirtual 51, 3) := by decide +kernel
theorem dL_adds_108 : decode cL_adds 108 = .ok (.ifCond .eq 7, 3) := by decide +kernel
theorem dL_adds_111 : decode cL_adds 111 = .ok (.iconst 1, 1) := by decide +kernel
theorem dL_adds_112 : decode cL_adds 112 = .ok (.goto 4, 3) := by decide +kernel
theorem dL_adds_115 : decode cL_adds 115 = .ok (.iconst 0, 1) := by decide +kernel
theorem dL_adds_116 : decode cL_adds 116 = .ok (.istore 5, 2) := by decide +kernel
theorem dL_adds_118 : decode cL_adds 118 = .ok (.iload 4, 2) := by decide +kernel
theorem dL_adds_120 : decode cL_adds 120 = .ok (.iload 9, 2) := by decide +kernel
theorem dL_adds_122 : decode cL_adds 122 = .ok (.bipush (-113), 2) := by decide +kernel
theorem dL_adds_124 : decode cL_adds 124 = .ok (.if_icmp .ne 7, 3) := by decide +kernel
theorem dL_adds_127 : decode cL_adds 127 = .ok (.iconst 0, 1) := by decide +kernel
theorem dL_adds_128 : decode cL_adds 128 = .ok (.goto 4, 3) := by decide +kernel
theorem dL_adds_131 : decode cL_adds 131 = .ok (.iconst 1, 1) := by decide +kernel
theorem dL_adds_132 : decode cL_adds 132 = .ok (.iadd, 1) := by decide +kernel
theorem dL_adds_133 : decode cL_adds 133 = .ok (.istore 4, 2) := by decide +kernel
theorem dL_adds_135 : decode cL_adds 135 = .ok (.iload_n 3, 1) := by decide +kernel
theorem dL_adds_136 : decode cL_adds 136 = .ok (.iload 9, 2) := by decide +kernel
theorem dL_adds_138 : decode cL_adds 138 = .ok (.ifCond .ge 7, 3) := by decide +kernel
theorem dL_adds_141 : decode cL_adds 141 = .ok (.iconst 0, 1) := by decide +kernel
theorem dL_adds_142 : decode cL_adds 142 = .ok (.goto 15, 3) := by decide +kernel
theorem dL_adds_145 : decode cL_adds 145 = .ok (.iload 9, 2) := by decide +kernel
theorem dL_adds_147 : decode cL_adds 147 = .ok (.iconst 3, 1) := by decide +kernel
theorem dL_adds_148 : decode cL_adds 148 = .ok (.if_icmp .ne 7, 3) := by decide +kernel
theorem dL_adds_151 : decode cL_adds 151 = .ok (.iconst 4, 1) := by decide +kernel
theorem dL_adds_152 : decode cL_adds 152 = .ok (.goto 5, 3) := by decide +kernel
theorem dL_adds_155 : decode cL_adds 155 = .ok (.iload 9, 2) := by decide +kernel
theorem dL_adds_157 : decode cL_adds 157 = .ok (.iadd, 1) := by decide +kernel
theorem dL_adds_158 : decode cL_adds 158 = .ok (.istore_n 3, 1) := by decide +kernel
theorem dL_adds_159 : decode cL_adds 159 = .ok (.iinc 6 1, 3) := by decide +kernel
theorem dL_adds_162 : decode cL_adds 162 = .ok (.goto (-145), 3) := by decide +kernel
theorem dL_adds_165 : decode cL_adds 165 = .ok (.aload_n 0, 1) := by decide +kernel
theorem dL_adds_166 : decode cL_adds 166 = .ok (.iload_n 1, 1) := by decide +kernel
theorem dL_adds_167 : decode cL_adds 167 = .ok (.invokevirtual 54, 3) := by decide +kernel
theorem dL_adds_170 : decode cL_adds 170 = .ok (.istore 6, 2) := by decide +kernel
theorem dL_adds_172 : decode cL_adds 172 = .ok (.iload 5, 2) := by decide +kernel
theorem dL_adds_174 : decode cL_adds 174 = .ok (.ifCond .eq 70, 3) := by decide +kernel
theorem dL_adds_177 : decode cL_adds 177 = .ok (.iload 4, 2) := by decide +kernel
theorem dL_adds_179 : decode cL_adds 179 = .ok (.aload_n 0, 1) := by decide +kernel
theorem dL_adds_180 : decode cL_adds 180 = .ok (.iload_n 1, 1) := by decide +kernel
theorem dL_adds_181 : decode cL_adds 181 = .ok (.invokevirtual 45, 3) := by decide +kernel
theorem dL_adds_184 : decode cL_adds 184 = .ok (.if_icmp .ne 60, 3) := by decide +kernel
theorem dL_adds_187 : decode cL_adds 187 = .ok (.iload_n 3, 1) := by decide +kernel
theorem dL_adds_188 : decode cL_adds 188 = .ok (.iload 6, 2) := by decide +kernel
theorem dL_adds_190 : decode cL_adds 190 = .ok (.if_icmp .ne 54, 3) := by decide +kernel
theorem dL_adds_193 : decode cL_adds 193 = .ok (.aload_n 0, 1) := by decide +kernel
theorem dL_adds_194 : decode cL_adds 194 = .ok (.iload_n 1, 1) := by decide +kernel
theorem dL_adds_195 : decode cL_adds 195 = .ok (.invokevirtual 57, 3) := by decide +kernel
theorem dL_adds_198 : decode cL_adds 198 = .ok (.iload 6, 2) := by decide +kernel
theorem dL_adds_200 : decode cL_adds 200 = .ok (.if_icmp .ne 44, 3) := by decide +kernel
theorem dL_adds_203 : decode cL_adds 203 = .ok (.aload_n 0, 1) := by decide +kernel
theorem dL_adds_204 : decode cL_adds 204 = .ok (.iload_n 1, 1) := by decide +kernel
theorem dL_adds_205 : decode cL_adds 205 = .ok (.invokevirtual 60, 3) := by decide +kernel
theorem dL_adds_208 : decode cL_adds 208 = .ok (.iload 4, 2) := by decide +kernel
theorem dL_adds_210 : decode cL_adds 210 = .ok (.ifCond .ne 7, 3) := by decide +kernel
theorem dL_adds_213 : decode cL_adds 213 = .ok (.iconst 0, 1) := by decide +kernel
theorem dL_adds_214 : decode cL_adds 214 = .ok (.goto 13, 3) := by decide +kernel
theorem dL_adds_217 : decode cL_adds 217 = .ok (.bipush 100, 2) := by decide +kernel
theorem dL_adds_219 : decode cL_adds 219 = .ok (.iload 6, 2) := by decide +kernel
theorem dL_adds_221 : decode cL_adds 221 = .ok (.imul, 1) := by decide +kernel
theorem dL_adds_222 : decode cL_adds 222 = .ok (.iconst 4, 1) := by decide +kernel
theorem dL_adds_223 : decode cL_adds 223 = .ok (.iload 4, 2) := by decide +kernel
theorem dL_adds_225 : decode cL_adds 225 = .ok (.imul, 1) := by decide +kernel
theorem dL_adds_226 : decode cL_adds 226 = .ok (.idiv, 1) := by decide +kernel
theorem dL_adds_227 : decode cL_adds 227 = .ok (.if_icmp .ne 17, 3) := by decide +kernel
theorem dL_adds_230 : decode cL_adds 230 = .ok (.aload_n 0, 1) := by decide +kernel
theorem dL_adds_231 : decode cL_adds 231 = .ok (.iload_n 1, 1) := by decide +kernel
theorem dL_adds_232 : decode cL_adds 232 = .ok (.invokevirtual 48, 3) := by decide +kernel
theorem dL_adds_235 : decode cL_adds 235 = .ok (.iload 4, 2) := by decide +kernel
theorem dL_adds_237 : decode cL_adds 237 = .ok (.if_icmp .lt 7, 3) := by decide +kernel
theorem dL_adds_240 : decode cL_adds 240 = .ok (.iconst 1, 1) := by decide +kernel
theorem dL_adds_241 : decode cL_adds 241 = .ok (.goto 4, 3) := by decide +kernel
theorem dL_adds_244 : decode cL_adds 244 = .ok (.iconst 0, 1) := by decide +kernel
theorem dL_adds_245 : decode cL_adds 245 = .ok (.istore 5, 2) := by decide +kernel
theorem dL_adds_247 : decode cL_adds 247 = .ok (.iconst 0, 1) := by decide +kernel
theorem dL_adds_248 : decode cL_adds 248 = .ok (.istore 7, 2) := by decide +kernel
theorem dL_adds_250 : decode cL_adds 250 = .ok (.iconst 0, 1) := by decide +kernel
theorem dL_adds_251 : decode cL_adds 251 = .ok (.istore 8, 2) := by decide +kernel
theorem dL_adds_253 : decode cL_adds 253 = .ok (.iconst 0, 1) := by decide +kernel
theorem dL_adds_254 : decode cL_adds 254 = .ok (.istore 9, 2) := by decide +kernel
theorem dL_adds_256 : decode cL_adds 256 = .ok (.iload 9, 2) := by decide +kernel
theorem dL_adds_258 : decode cL_adds 258 = .ok (.aload_n 0, 1) := by decide +kernel
theorem dL_adds_259 : decode cL_adds 259 = .ok (.iconst 0, 1) := by decide +kernel
theorem dL_adds_260 : decode cL_adds 260 = .ok (.invokevirtual 42, 3) := by decide +kernel
theorem dL_adds_263 : decode cL_adds 263 = .ok (.if_icmp .ge 90, 3) := by decide +kernel
theorem dL_adds_266 : decode cL_adds 266 = .ok (.iload 5, 2) := by decide +kernel
theorem dL_adds_268 : decode cL_adds 268 = .ok (.ifCond .eq 85, 3) := by decide +kernel
theorem dL_adds_271 : decode cL_adds 271 = .ok (.aload_n 0, 1) := by decide +kernel
theorem dL_adds_272 : decode cL_adds 272 = .ok (.iload_n 1, 1) := by decide +kernel
theorem dL_adds_273 : decode cL_adds 273 = .ok (.iload 9, 2) := by decide +kernel
theorem dL_adds_275 : decode cL_adds 275 = .ok (.invokevirtual 63, 3) := by decide +kernel
theorem dL_adds_278 : decode cL_adds 278 = .ok (.istore 10, 2) := by decide +kernel
theorem dL_adds_280 : decode cL_adds 280 = .ok (.iload 10, 2) := by decide +kernel
theorem dL_adds_282 : decode cL_adds 282 = .ok (.iconst (-1), 1) := by decide +kernel
theorem dL_adds_283 : decode cL_adds 283 = .ok (.if_icmp .eq 24, 3) := by decide +kernel
theorem dL_adds_286 : decode cL_adds 286 = .ok (.iload 10, 2) := by decide +kernel
theorem dL_adds_288 : decode cL_adds 288 = .ok (.ifCond .lt 23, 3) := by decide +kernel
theorem dL_adds_291 : decode cL_adds 291 = .ok (.iload 10, 2) := by decide +kernel
theorem dL_adds_293 : decode cL_adds 293 = .ok (.iload_n 2, 1) := by decide +kernel
theorem dL_adds_294 : decode cL_adds 294 = .ok (.if_icmp .ge 17, 3) := by decide +kernel
theorem dL_adds_297 : decode cL_adds 297 = .ok (.iload 8, 2) := by decide +kernel
theorem dL_adds_299 : decode cL_adds 299 = .ok (.iload 10, 2) := by decide +kernel
theorem dL_adds_301 : decode cL_adds 301 = .ok (.ishr, 1) := by decide +kernel
theorem dL_adds_302 : decode cL_adds 302 = .ok (.iconst 1, 1) := by decide +kernel
theorem dL_adds_303 : decode cL_adds 303 = .ok (.iand, 1) := by decide +kernel
theorem dL_adds_304 : decode cL_adds 304 = .ok (.ifCond .ne 7, 3) := by decide +kernel
theorem dL_adds_307 : decode cL_adds 307 = .ok (.iconst 1, 1) := by decide +kernel
theorem dL_adds_308 : decode cL_adds 308 = .ok (.goto 4, 3) := by decide +kernel
theorem dL_adds_311 : decode cL_adds 311 = .ok (.iconst 0, 1) := by decide +kernel
theorem dL_adds_312 : decode cL_adds 312 = .ok (.istore 5, 2) := by decide +kernel
theorem dL_adds_314 : decode cL_adds 314 = .ok (.iload 8, 2) := by decide +kernel
theorem dL_adds_316 : decode cL_adds 316 = .ok (.iload 10, 2) := by decide +kernel
theorem dL_adds_318 : decode cL_adds 318 = .ok (.ifCond .ge 7, 3) := by decide +kernel
theorem dL_adds_321 : decode cL_adds 321 = .ok (.iconst 0, 1) := by decide +kernel
theorem dL_adds_322 : decode cL_adds 322 = .ok (.goto 7, 3) := by decide +kernel
theorem dL_adds_325 : decode cL_adds 325 = .ok (.iconst 1, 1) := by decide +kernel
theorem dL_adds_326 : decode cL_adds 326 = .ok (.iload 10, 2) := by decide +kernel
theorem dL_adds_328 : decode cL_adds 328 = .ok (.ishl, 1) := by decide +kernel
theorem dL_adds_329 : decode cL_adds 329 = .ok (.ior, 1) := by decide +kernel
theorem dL_adds_330 : decode cL_adds 330 = .ok (.istore 8, 2) := by decide +kernel
theorem dL_adds_332 : decode cL_adds 332 = .ok (.iload 7, 2) := by decide +kernel
theorem dL_adds_334 : decode cL_adds 334 = .ok (.iload 10, 2) := by decide +kernel
theorem dL_adds_336 : decode cL_adds 336 = .ok (.ifCond .ge 7, 3) := by decide +kernel
theorem dL_adds_339 : decode cL_adds 339 = .ok (.iconst 0, 1) := by decide +kernel
theorem dL_adds_340 : decode cL_adds 340 = .ok (.goto 4, 3) := by decide +kernel
theorem dL_adds_343 : decode cL_adds 343 = .ok (.iconst 1, 1) := by decide +kernel
theorem dL_adds_344 : decode cL_adds 344 = .ok (.iadd, 1) := by decide +kernel
theorem dL_adds_345 : decode cL_adds 345 = .ok (.istore 7, 2) := by decide +kernel
theorem dL_adds_347 : decode cL_adds 347 = .ok (.iinc 9 1, 3) := by decide +kernel
theorem dL_adds_350 : decode cL_adds 350 = .ok (.goto (-94), 3) := by decide +kernel
theorem dL_adds_353 : decode cL_adds 353 = .ok (.iload 5, 2) := by decide +kernel
theorem dL_adds_355 : decode cL_adds 355 = .ok (.ifCond .eq 53, 3) := by decide +kernel
theorem dL_adds_358 : decode cL_adds 358 = .ok (.aload_n 0, 1) := by decide +kernel
theorem dL_adds_359 : decode cL_adds 359 = .ok (.iload_n 1, 1) := by decide +kernel
theorem dL_adds_360 : decode cL_adds 360 = .ok (.invokevirtual 70, 3) := by decide +kernel
theorem dL_adds_363 : decode cL_adds 363 = .ok (.iload_n 2, 1) := by decide +kernel
theorem dL_adds_364 : decode cL_adds 364 = .ok (.iload 7, 2) := by decide +kernel
theorem dL_adds_366 : decode cL_adds 366 = .ok (.isub, 1) := by decide +kernel
theorem dL_adds_367 : decode cL_adds 367 = .ok (.if_icmp .ne 41, 3) := by decide +kernel
theorem dL_adds_370 : decode cL_adds 370 = .ok (.aload_n 0, 1) := by decide +kernel
theorem dL_adds_371 : decode cL_adds 371 = .ok (.bipush 12, 2) := by decide +kernel
theorem dL_adds_373 : decode cL_adds 373 = .ok (.iload_n 1, 1) := by decide +kernel
theorem dL_adds_374 : decode cL_adds 374 = .ok (.aload_n 0, 1) := by decide +kernel
theorem dL_adds_375 : decode cL_adds 375 = .ok (.iconst 0, 1) := by decide +kernel
theorem dL_adds_376 : decode cL_adds 376 = .ok (.invokevirtual 42, 3) := by decide +kernel
theorem dL_adds_379 : decode cL_adds 379 = .ok (.iconst 0, 1) := by decide +kernel
theorem dL_adds_380 : decode cL_adds 380 = .ok (.iconst 0, 1) := by decide +kernel
theorem dL_adds_381 : decode cL_adds 381 = .ok (.invokestatic 85, 3) := by decide +kernel
theorem dL_adds_384 : decode cL_adds 384 = .ok (.bipush (-111), 2) := by decide +kernel
theorem dL_adds_386 : decode cL_adds 386 = .ok (.if_icmp .ne 22, 3) := by decide +kernel
theorem dL_adds_389 : decode cL_adds 389 = .ok (.aload_n 0, 1) := by decide +kernel
theorem dL_adds_390 : decode cL_adds 390 = .ok (.bipush 13, 2) := by decide +kernel
theorem dL_adds_392 : decode cL_adds 392 = .ok (.iload_n 1, 1) := by decide +kernel
theorem dL_adds_393 : decode cL_adds 393 = .ok (.iconst 0, 1) := by decide +kernel
theorem dL_adds_394 : decode cL_adds 394 = .ok (.iload_n 2, 1) := by decide +kernel
theorem dL_adds_395 : decode cL_adds 395 = .ok (.iconst 0, 1) := by decide +kernel
theorem dL_adds_396 : decode cL_adds 396 = .ok (.invokestatic 85, 3) := by decide +kernel
theorem dL_adds_399 : decode cL_adds 399 = .ok (.bipush (-111), 2) := by decide +kernel
theorem dL_adds_401 : decode cL_adds 401 = .ok (.if_icmp .ne 7, 3) := by decide +kernel
theorem dL_adds_404 : decode cL_adds 404 = .ok (.iconst 1, 1) := by decide +kernel
theorem dL_adds_405 : decode cL_adds 405 = .ok (.goto 4, 3) := by decide +kernel
theorem dL_adds_408 : decode cL_adds 408 = .ok (.iconst 0, 1) := by decide +kernel
theorem dL_adds_409 : decode cL_adds 409 = .ok (.ireturn, 1) := by decide +kernel
set_option maxRecDepth 20000 in
theorem ggL_changes_L_all : GoodIn wsL_changes wsL_all := goodIn_ca (goodIn_r _ [4, 5, 6, 7, 8, 9, 10, 11, 12, 13, 14, 15, 16, 17, 18, 19, 20, 21, 22, 23, 24, 25, 26, 27, 28, 29, 30, 31, 32, 33, 34, 35, 36, 37, 38, 39, 40, 41, 42, 43, 44, 45, 46, 47, 48, 49, 50, 51, 52, 53, 54, 55, 56, 57, 58, 59, 60, 61, 62, 63, 64, 65, 66, 67, 68, 69, 70, 71, 72, 73, 74, 75, 76, 77, 78, 79, 80, 81, 82, 83, 84, 85, 86, 87, 88, 89, 90, 91, 92, 93, 94, 95, 96, 97, 98, 99, 100, 101, 102, 103, 104, 105, 106, 107, 108, 109, 110, 111, 112, 113, 114, 115, 116, 117, 118, 119, 120, 121, 122, 123, 124, 125, 126, 127, 128, 129, 130, 131, 132, 133, 134, 135, 136, 137, 138, 139, 140, 141, 142, 143, 144, 145, 146, 147, 148, 149, 150, 151, 152, 153, 154, 155, 156, 157, 158, 159, 160, 161, 162, 163, 164, 313, 314, 315, 316, 317, 318, 319, 320, 321, 322, 323, 324, 325, 326, 327, 328, 329, 330, 331, 332, 333, 334, 335, 336, 337] (by decide +kernel) (by decide +kernel)) (goodIn_sub (fun _ h => List.mem_cons_of_mem _ (List.mem_append_left _ (List.mem_append_left _ (List.mem_append_right _ h)))) (by decide +kernel))
set_option maxRecDepth 20000 in
theorem gL_changes_L_all : GoodIn wsL_changes (va_wsS RL 88 yL_all wsL_all) := goodIn_app (goodIn_of _ (by decide +kernel)) ggL_changes_L_all
set_option maxRecDepth 20000 in
theorem ggL_changes_L_some : GoodIn wsL_changes wsL_some := goodIn_r _ [167] (by decide +kernel) (by decide +kernel)
set_option maxRecDepth 20000 in
theorem gL_changes_L_some : GoodIn wsL_changes (va_wsS RL 92 yL_some wsL_some) := goodIn_app (goodIn_of _ (by decide +kernel)) ggL_changes_L_some
set_option maxRecDepth 20000 in
theorem ggL_changes_X6_ideas : GoodIn wsL_changes wsX6_ideas := goodIn_ca (goodIn_r _ [12, 13, 14, 15, 11, 16, 17, 18, 19, 313, 314, 315, 316, 317, 318, 319, 320, 321, 322, 323, 324, 325] (by decide +kernel) (by decide +kernel)) (goodIn_sub (fun _ h => List.mem_cons_of_mem _ (List.mem_append_left _ (List.mem_append_left _ (List.mem_append_right _ h)))) (by decide +kernel))
set_option maxRecDepth 20000 in
theorem gL_changes_X6_ideas : GoodIn wsL_changes (wsV RL 42 RX6 yX6_ideas wsX6_ideas) := goodIn_app (goodIn_of _ (by decide +kernel)) ggL_changes_X6_ideas
set_option maxRecDepth 20000 in
theorem ggL_changes_X6_links : GoodIn wsL_changes wsX6_links := goodIn_ca (goodIn_r _ [23, 13, 14, 15, 11, 16, 17, 18, 19, 24, 25, 26, 27, 28, 29, 30, 31, 32, 33, 34, 35, 36, 37, 38, 39, 40, 41, 42, 313, 314, 315, 316, 317, 318, 319, 320, 321, 322, 323, 324, 325, 326, 327] (by decide +kernel) (by decide +kernel)) (goodIn_sub (fun _ h => List.mem_cons_of_mem _ (List.mem_append_left _ (List.mem_append_left _ (List.mem_append_right _ h)))) (by decide +kernel))
set_option maxRecDepth 20000 in
theorem gL_changes_X6_links : GoodIn wsL_changes (wsV RL 45 RX6 yX6_links wsX6_links) := goodIn_app (goodIn_of _ (by decide +kernel)) ggL_changes_X6_links
set_option maxRecDepth 20000 in
theorem ggL_changes_L_call : GoodIn wsL_changes wsL_call := goodIn_ca (goodIn_ca (goodIn_ca (goodIn_r _ [170, 171, 172, 173, 174, 175, 3, 176, 177, 178, 179, 11, 180, 181, 182, 13, 14, 15, 16, 17, 18, 19, 183, 184, 185, 186, 187, 188, 189, 190, 191, 192, 193, 82, 83, 33, 84, 35, 194, 195, 196, 197, 198, 199, 200, 201, 202, 203, 204, 205, 206, 207, 208, 209, 210, 211, 27, 212, 29, 66, 67, 68, 69, 30, 31, 32, 34, 81, 213, 214, 215, 216, 217, 218, 219, 220, 221, 222, 223, 224, 225, 226, 25, 26, 28, 36, 37, 38, 39, 40, 41, 42, 227, 228, 229, 230, 231, 232, 233, 234, 235, 236, 237, 238, 99, 239, 110, 111, 112, 113, 114, 115, 240, 241, 242, 243, 244, 245, 246, 247, 248, 48, 249, 250, 251, 73, 252, 75, 76, 253, 8, 9, 10, 12, 20, 21, 22, 23, 24, 43, 44, 45, 46, 47, 49, 50, 51, 52, 53, 54, 55, 56, 57, 58, 59, 60, 61, 62, 63, 64, 65, 70, 71, 72, 74, 77, 78, 79, 80, 254, 255, 256, 257, 258, 85, 86, 87, 88, 89, 90, 91, 92, 93, 94, 95, 96, 97, 98, 100, 101, 102, 103, 104, 105, 106, 107, 108, 109, 116, 117, 118, 119, 120, 121, 122, 123, 124, 125, 126, 127, 128, 129, 130, 131, 132, 133, 134, 135, 136, 137, 138, 139, 140, 141, 142, 143, 144, 145, 146, 147, 148, 149, 150, 151, 152, 153, 154, 155, 156, 259, 260, 261, 262, 263, 264, 265, 266, 267, 268, 269, 270, 271, 272, 273, 274, 275, 276, 277, 278, 279, 280, 281, 282, 283, 284, 285, 286, 161, 162, 163, 164, 287, 288, 289, 290, 291, 157, 158, 159, 160, 292, 293, 294, 295, 296, 297, 298, 299, 300, 301, 302, 303, 304, 305, 306, 307, 308, 309, 310, 311, 312, 313, 314, 315, 316, 317, 318, 319, 320, 321, 322, 323, 324, 325, 327, 326, 337, 328, 329, 330, 331, 332, 333, 334, 335, 336] (by decide +kernel) (by decide +kernel)) (goodIn_sub (fun _ h => List.mem_cons_of_mem _ (List.mem_append_left _ (List.mem_append_right _ h))) (by decide +kernel))) (goodIn_sub (fun _ h => List.mem_cons_of_mem _ (List.mem_append_left _ (List.mem_append_left _ (List.mem_append_right _ h)))) (by decide +kernel))) (goodIn_sub (fun _ h => List.mem_cons_of_mem _ (List.mem_append_right _ h)) (by decide +kernel))
set_option maxRecDepth 20000 in
theorem gL_changes_L_call : GoodIn wsL_changes (va_wsS RL 85 yL_call wsL_call) := goodIn_app (goodIn_of _ (by decide +kernel)) ggL_changes_L_call
set_option maxRecDepth 20000 in
theorem ggL_changes_X6_holds : GoodIn wsL_changes wsX6_holds := goodIn_ca (goodIn_ca (goodIn_r _ [257, 47, 48, 13, 14, 15, 11, 16, 17, 18, 19, 198, 199, 200, 201, 202, 203, 204, 205, 206, 207, 208, 49, 50, 51, 27, 52, 29, 53, 54, 55, 33, 56, 35, 57, 31, 32, 34, 58, 59, 60, 61, 62, 63, 64, 65, 66, 67, 68, 69, 30, 70, 71, 72, 73, 74, 75, 76, 77, 78, 79, 80, 81, 82, 83, 84, 258, 214, 215, 216, 316, 317, 318, 319, 320, 321, 322, 323, 324, 325, 313, 314, 315, 326, 327, 328] (by decide +kernel) (by decide +kernel)) (goodIn_sub (fun _ h => List.mem_cons_of_mem _ (List.mem_append_left _ (List.mem_append_left _ (List.mem_append_right _ h)))) (by decide +kernel))) (goodIn_sub (fun _ h => List.mem_cons_of_mem _ (List.mem_append_right _ h)) (by decide +kernel))
set_option maxRecDepth 20000 in
theorem gL_changes_X6_holds : GoodIn wsL_changes (wsV RL 51 RX6 yX6_holds wsX6_holds) := goodIn_app (goodIn_of _ (by decide +kernel)) ggL_changes_X6_holds
set_option maxRecDepth 20000 in
theorem ggL_changes_X6_synonyms : GoodIn wsL_changes wsX6_synonyms := goodIn_ca (goodIn_r _ [238, 99, 183, 184, 11, 185, 17, 18, 239, 110, 111, 112, 113, 114, 115, 31, 32, 33, 34, 35, 240, 241, 242, 243, 244, 82, 83, 84, 316, 317, 318, 319, 320, 321, 322, 323, 324, 325, 337, 327] (by decide +kernel) (by decide +kernel)) (goodIn_sub (fun _ h => List.mem_cons_of_mem _ (List.mem_append_left _ (List.mem_append_left _ (List.mem_append_right _ h)))) (by decide +kernel))
set_option maxRecDepth 20000 in
theorem gL_changes_X6_synonyms : GoodIn wsL_changes (wsV RL 34 RX6 yX6_synonyms wsX6_synonyms) := goodIn_app (goodIn_of _ (by decide +kernel)) ggL_changes_X6_synonyms
set_option maxRecDepth 20000 in
theorem ggL_changes_X6_chain : GoodIn wsL_changes wsX6_chain := goodIn_ca (goodIn_r _ [248, 48, 206, 207, 11, 208, 201, 202, 249, 250, 251, 73, 252, 75, 76, 31, 32, 33, 34, 35, 253, 82, 83, 84, 316, 317, 318, 319, 320, 321, 322, 323, 324, 325, 328, 327] (by decide +kernel) (by decide +kernel)) (goodIn_sub (fun _ h => List.mem_cons_of_mem _ (List.mem_append_right _ h)) (by decide +kernel))
set_option maxRecDepth 20000 in
theorem gL_changes_X6_chain : GoodIn wsL_changes (wsV RL 38 RX6 yX6_chain wsX6_chain) := goodIn_app (goodIn_of _ (by decide +kernel)) ggL_changes_X6_chain
set_option maxRecDepth 20000 in
theorem ggL_changes_X6_held : GoodIn wsL_changes wsX6_held := goodIn_ca (goodIn_r _ [46, 47, 48, 13, 14, 15, 11, 16, 17, 18, 19, 49, 50, 51, 27, 52, 29, 53, 54, 55, 33, 56, 35, 57, 31, 32, 34, 58, 59, 60, 61, 62, 63, 64, 65, 66, 67, 68, 69, 30, 70, 71, 72, 73, 74, 75, 76, 77, 78, 79, 80, 81, 82, 83, 84, 24, 25, 26, 28, 36, 37, 38, 39, 40, 41, 42, 316, 317, 318, 319, 320, 321, 322, 323, 324, 325, 313, 314, 315, 326, 327, 328] (by decide +kernel) (by decide +kernel)) (goodIn_sub (fun _ h => List.mem_cons_of_mem _ (List.mem_append_left _ (List.mem_append_left _ (List.mem_append_right _ h)))) (by decide +kernel))
set_option maxRecDepth 20000 in
theorem gL_changes_X6_held : GoodIn wsL_changes (wsV RL 48 RX6 yX6_held wsX6_held) := goodIn_app (goodIn_of _ (by decide +kernel)) ggL_changes_X6_held
theorem dL_changes_0 : decode cL_changes 0 = .ok (.aload_n 0, 1) := by decide +kernel
theorem dL_changes_1 : decode cL_changes 1 = .ok (.invokestatic 88, 3) := by decide +kernel
theorem dL_changes_4 : decode cL_changes 4 = .ok (.lstore_n 3, 1) := by decide +kernel
theorem dL_changes_5 : decode cL_changes 5 = .ok (.iload_n 2, 1) := by decide +kernel
theorem dL_changes_6 : decode cL_changes 6 = .ok (.ifCond .eq 14, 3) := by decide +kernel
theorem dL_changes_9 : decode cL_changes 9 = .ok (.iload_n 1, 1) := by decide +kernel
theorem dL_changes_10 : decode cL_changes 10 = .ok (.bipush 6, 2) := by decide +kernel
theorem dL_changes_12 : decode cL_changes 12 = .ok (.invokestatic 92, 3) := by decide +kernel
theorem dL_changes_15 : decode cL_changes 15 = .ok (.iconst 1, 1) := by decide +kernel
