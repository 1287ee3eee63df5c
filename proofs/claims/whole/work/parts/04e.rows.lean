theorem dX7_bestModel_63 : decode cX7_bestModel 63 = .ok (.ireturn, 1) := by decide +kernel
set_option maxRecDepth 20000 in
theorem ggX7_matchOf_X7_isModel : GoodIn wsX7_matchOf wsX7_isModel := goodIn_r _ [6] (by decide +kernel) (by decide +kernel)
set_option maxRecDepth 20000 in
theorem gX7_matchOf_X7_isModel : GoodIn wsX7_matchOf (va_wsS RX7 95 yX7_isModel wsX7_isModel) := goodIn_app (goodIn_of _ (by decide +kernel)) ggX7_matchOf_X7_isModel
set_option maxRecDepth 20000 in
theorem ggX7_matchOf_X7_isIdea : GoodIn wsX7_matchOf wsX7_isIdea := goodIn_r _ [10, 2, 11, 12, 5, 13, 57, 58, 59, 60, 61, 62, 63, 64, 65, 66, 67, 68] (by decide +kernel) (by decide +kernel)
set_option maxRecDepth 20000 in
theorem gX7_matchOf_X7_isIdea : GoodIn wsX7_matchOf (wsV RX7 57 RX7 yX7_isIdea wsX7_isIdea) := goodIn_app (goodIn_of _ (by decide +kernel)) ggX7_matchOf_X7_isIdea
set_option maxRecDepth 20000 in
theorem ggX7_matchOf_X7_asks : GoodIn wsX7_matchOf wsX7_asks := goodIn_r _ [17, 18, 57, 58, 59, 60, 61, 62, 63, 64, 65, 66, 67, 68] (by decide +kernel) (by decide +kernel)
set_option maxRecDepth 20000 in
theorem gX7_matchOf_X7_asks : GoodIn wsX7_matchOf (wsV RX7 49 RX7 yX7_asks wsX7_asks) := goodIn_app (goodIn_of _ (by decide +kernel)) ggX7_matchOf_X7_asks
set_option maxRecDepth 20000 in
theorem ggX7_matchOf_X7_most : GoodIn wsX7_matchOf wsX7_most := goodIn_r _ [22, 1, 2, 23, 24, 25, 26, 5, 27, 28, 29, 30, 31, 32, 33, 34, 35, 36, 37, 38, 39, 40, 41, 42, 43, 44, 45, 46, 47, 48, 49, 50, 51, 52, 53, 54, 55, 56, 57, 58, 59, 60, 61, 62, 63, 64, 65, 66, 67, 68] (by decide +kernel) (by decide +kernel)
set_option maxRecDepth 20000 in
theorem gX7_matchOf_X7_most : GoodIn wsX7_matchOf (wsV RX7 98 RX7 yX7_most wsX7_most) := goodIn_app (goodIn_of _ (by decide +kernel)) ggX7_matchOf_X7_most
theorem dX7_matchOf_0 : decode cX7_matchOf 0 = .ok (.aload_n 0, 1) := by decide +kernel
theorem dX7_matchOf_1 : decode cX7_matchOf 1 = .ok (.iload_n 1, 1) := by decide +kernel
theorem dX7_matchOf_2 : decode cX7_matchOf 2 = .ok (.invokestatic 95, 3) := by decide +kernel
theorem dX7_matchOf_5 : decode cX7_matchOf 5 = .ok (.ifCond .eq 16, 3) := by decide +kernel
theorem dX7_matchOf_8 : decode cX7_matchOf 8 = .ok (.aload_n 0, 1) := by decide +kernel
theorem dX7_matchOf_9 : decode cX7_matchOf 9 = .ok (.iconst 0, 1) := by decide +kernel
theorem dX7_matchOf_10 : decode cX7_matchOf 10 = .ok (.iload_n 2, 1) := by decide +kernel
theorem dX7_matchOf_11 : decode cX7_matchOf 11 = .ok (.invokevirtual 57, 3) := by decide +kernel
theorem dX7_matchOf_14 : decode cX7_matchOf 14 = .ok (.ifCond .eq 7, 3) := by decide +kernel
theorem dX7_matchOf_17 : decode cX7_matchOf 17 = .ok (.iconst 1, 1) := by decide +kernel
theorem dX7_matchOf_18 : decode cX7_matchOf 18 = .ok (.goto 4, 3) := by decide +kernel
theorem dX7_matchOf_21 : decode cX7_matchOf 21 = .ok (.iconst 0, 1) := by decide +kernel
theorem dX7_matchOf_22 : decode cX7_matchOf 22 = .ok (.invokevirtual 49, 3) := by decide +kernel
theorem dX7_matchOf_25 : decode cX7_matchOf 25 = .ok (.ifCond .ne 5, 3) := by decide +kernel
theorem dX7_matchOf_28 : decode cX7_matchOf 28 = .ok (.iconst 0, 1) := by decide +kernel
theorem dX7_matchOf_29 : decode cX7_matchOf 29 = .ok (.ireturn, 1) := by decide +kernel
theorem dX7_matchOf_30 : decode cX7_matchOf 30 = .ok (.aload_n 0, 1) := by decide +kernel
theorem dX7_matchOf_31 : decode cX7_matchOf 31 = .ok (.iload_n 1, 1) := by decide +kernel
theorem dX7_matchOf_32 : decode cX7_matchOf 32 = .ok (.invokevirtual 98, 3) := by decide +kernel
theorem dX7_matchOf_35 : decode cX7_matchOf 35 = .ok (.pop, 1) := by decide +kernel
theorem dX7_matchOf_36 : decode cX7_matchOf 36 = .ok (.aload_n 0, 1) := by decide +kernel
theorem dX7_matchOf_37 : decode cX7_matchOf 37 = .ok (.getfield 29, 3) := by decide +kernel
theorem dX7_matchOf_40 : decode cX7_matchOf 40 = .ok (.iload_n 2, 1) := by decide +kernel
theorem dX7_matchOf_41 : decode cX7_matchOf 41 = .ok (.iaload, 1) := by decide +kernel
theorem dX7_matchOf_42 : decode cX7_matchOf 42 = .ok (.aload_n 0, 1) := by decide +kernel
theorem dX7_matchOf_43 : decode cX7_matchOf 43 = .ok (.getfield 7, 3) := by decide +kernel
theorem dX7_matchOf_46 : decode cX7_matchOf 46 = .ok (.iload_n 1, 1) := by decide +kernel
theorem dX7_matchOf_47 : decode cX7_matchOf 47 = .ok (.iaload, 1) := by decide +kernel
theorem dX7_matchOf_48 : decode cX7_matchOf 48 = .ok (.if_icmp .ne 7, 3) := by decide +kernel
theorem dX7_matchOf_51 : decode cX7_matchOf 51 = .ok (.iconst (-1), 1) := by decide +kernel
theorem dX7_matchOf_52 : decode cX7_matchOf 52 = .ok (.goto 9, 3) := by decide +kernel
theorem dX7_matchOf_55 : decode cX7_matchOf 55 = .ok (.aload_n 0, 1) := by decide +kernel
theorem dX7_matchOf_56 : decode cX7_matchOf 56 = .ok (.getfield 29, 3) := by decide +kernel
theorem dX7_matchOf_59 : decode cX7_matchOf 59 = .ok (.iload_n 2, 1) := by decide +kernel
theorem dX7_matchOf_60 : decode cX7_matchOf 60 = .ok (.iaload, 1) := by decide +kernel
theorem dX7_matchOf_61 : decode cX7_matchOf 61 = .ok (.ireturn, 1) := by decide +kernel
set_option maxRecDepth 20000 in
theorem ggX7_verdict_X7_isModel : GoodIn wsX7_verdict wsX7_isModel := goodIn_r _ [5] (by decide +kernel) (by decide +kernel)
set_option maxRecDepth 20000 in
theorem gX7_verdict_X7_isModel : GoodIn wsX7_verdict (va_wsS RX7 95 yX7_isModel wsX7_isModel) := goodIn_app (goodIn_of _ (by decide +kernel)) ggX7_verdict_X7_isModel
set_option maxRecDepth 20000 in
theorem ggX7_verdict_X7_asks : GoodIn wsX7_verdict wsX7_asks := goodIn_r _ [9, 10, 68, 69, 70, 71, 72, 73, 74, 75, 76, 77, 78, 79] (by decide +kernel) (by decide +kernel)
set_option maxRecDepth 20000 in
theorem gX7_verdict_X7_asks : GoodIn wsX7_verdict (wsV RX7 49 RX7 yX7_asks wsX7_asks) := goodIn_app (goodIn_of _ (by decide +kernel)) ggX7_verdict_X7_asks
set_option maxRecDepth 20000 in
theorem ggX7_verdict_X7_asksLink : GoodIn wsX7_verdict wsX7_asksLink := goodIn_r _ [14, 10, 15, 16, 17, 4, 18, 19, 20, 21, 22, 23, 24, 25, 68, 69, 70, 71, 72, 73, 74, 75, 76, 77, 78, 79] (by decide +kernel) (by decide +kernel)
set_option maxRecDepth 20000 in
theorem gX7_verdict_X7_asksLink : GoodIn wsX7_verdict (wsV RX7 64 RX7 yX7_asksLink wsX7_asksLink) := goodIn_app (goodIn_of _ (by decide +kernel)) ggX7_verdict_X7_asksLink
set_option maxRecDepth 20000 in
theorem ggX7_verdict_X7_at : GoodIn wsX7_verdict wsX7_at := goodIn_r _ [28] (by decide +kernel) (by decide +kernel)
set_option maxRecDepth 20000 in
theorem gX7_verdict_X7_at : GoodIn wsX7_verdict (va_wsS RX7 68 yX7_at wsX7_at) := goodIn_app (goodIn_of _ (by decide +kernel)) ggX7_verdict_X7_at
set_option maxRecDepth 20000 in
theorem ggX7_verdict_X7_fails : GoodIn wsX7_verdict wsX7_fails := goodIn_r _ [32, 10, 68, 69, 70, 71, 72, 73, 74, 75, 76, 77, 78, 79] (by decide +kernel) (by decide +kernel)
set_option maxRecDepth 20000 in
theorem gX7_verdict_X7_fails : GoodIn wsX7_verdict (wsV RX7 53 RX7 yX7_fails wsX7_fails) := goodIn_app (goodIn_of _ (by decide +kernel)) ggX7_verdict_X7_fails
set_option maxRecDepth 20000 in
theorem ggX7_verdict_X7_most : GoodIn wsX7_verdict wsX7_most := goodIn_r _ [36, 37, 19, 38, 39, 40, 41, 4, 42, 43, 1, 44, 45, 46, 47, 48, 26, 27, 28, 49, 50, 51, 52, 53, 54, 55, 56, 57, 58, 59, 60, 61, 62, 63, 64, 65, 66, 67, 68, 69, 70, 71, 72, 73, 74, 75, 76, 77, 78, 79] (by decide +kernel) (by decide +kernel)
set_option maxRecDepth 20000 in
theorem gX7_verdict_X7_most : GoodIn wsX7_verdict (wsV RX7 98 RX7 yX7_most wsX7_most) := goodIn_app (goodIn_of _ (by decide +kernel)) ggX7_verdict_X7_most
set_option maxRecDepth 20000 in
theorem ggX7_verdict_X7_verdictOf : GoodIn wsX7_verdict wsX7_verdictOf := goodIn_r _ [61, 53, 1, 43, 26, 27, 4, 28, 68, 69, 70, 71, 72, 73, 74, 75, 76, 77, 78, 79] (by decide +kernel) (by decide +kernel)
set_option maxRecDepth 20000 in
theorem gX7_verdict_X7_verdictOf : GoodIn wsX7_verdict (wsV RX7 82 RX7 yX7_verdictOf wsX7_verdictOf) := goodIn_app (goodIn_of _ (by decide +kernel)) ggX7_verdict_X7_verdictOf
theorem dX7_verdict_0 : decode cX7_verdict 0 = .ok (.aload_n 0, 1) := by decide +kernel
theorem dX7_verdict_1 : decode cX7_verdict 1 = .ok (.iload_n 1, 1) := by decide +kernel
theorem dX7_verdict_2 : decode cX7_verdict 2 = .ok (.invokestatic 95, 3) := by decide +kernel
theorem dX7_verdict_5 : decode cX7_verdict 5 = .ok (.invokevirtual 49, 3) := by decide +kernel
theorem dX7_verdict_8 : decode cX7_verdict 8 = .ok (.ifCond .eq 15, 3) := by decide +kernel
theorem dX7_verdict_11 : decode cX7_verdict 11 = .ok (.aload_n 0, 1) := by decide +kernel
theorem dX7_verdict_12 : decode cX7_verdict 12 = .ok (.iload_n 1, 1) := by decide +kernel
theorem dX7_verdict_13 : decode cX7_verdict 13 = .ok (.iload_n 2, 1) := by decide +kernel
theorem dX7_verdict_14 : decode cX7_verdict 14 = .ok (.iload_n 3, 1) := by decide +kernel
theorem dX7_verdict_15 : decode cX7_verdict 15 = .ok (.iload 4, 2) := by decide +kernel
theorem dX7_verdict_17 : decode cX7_verdict 17 = .ok (.invokevirtual 64, 3) := by decide +kernel
theorem dX7_verdict_20 : decode cX7_verdict 20 = .ok (.ifCond .ne 5, 3) := by decide +kernel
theorem dX7_verdict_23 : decode cX7_verdict 23 = .ok (.iconst 0, 1) := by decide +kernel
theorem dX7_verdict_24 : decode cX7_verdict 24 = .ok (.ireturn, 1) := by decide +kernel
theorem dX7_verdict_25 : decode cX7_verdict 25 = .ok (.aload_n 0, 1) := by decide +kernel
theorem dX7_verdict_26 : decode cX7_verdict 26 = .ok (.getfield 16, 3) := by decide +kernel
theorem dX7_verdict_29 : decode cX7_verdict 29 = .ok (.iload_n 1, 1) := by decide +kernel
theorem dX7_verdict_30 : decode cX7_verdict 30 = .ok (.iload_n 2, 1) := by decide +kernel
theorem dX7_verdict_31 : decode cX7_verdict 31 = .ok (.iload_n 3, 1) := by decide +kernel
theorem dX7_verdict_32 : decode cX7_verdict 32 = .ok (.iload 4, 2) := by decide +kernel
theorem dX7_verdict_34 : decode cX7_verdict 34 = .ok (.invokestatic 68, 3) := by decide +kernel
theorem dX7_verdict_37 : decode cX7_verdict 37 = .ok (.baload, 1) := by decide +kernel
theorem dX7_verdict_38 : decode cX7_verdict 38 = .ok (.ifCond .ne 9, 3) := by decide +kernel
theorem dX7_verdict_41 : decode cX7_verdict 41 = .ok (.aload_n 0, 1) := by decide +kernel
theorem dX7_verdict_42 : decode cX7_verdict 42 = .ok (.iconst 3, 1) := by decide +kernel
theorem dX7_verdict_43 : decode cX7_verdict 43 = .ok (.invokevirtual 53, 3) := by decide +kernel
theorem dX7_verdict_46 : decode cX7_verdict 46 = .ok (.ireturn, 1) := by decide +kernel
theorem dX7_verdict_47 : decode cX7_verdict 47 = .ok (.aload_n 0, 1) := by decide +kernel
theorem dX7_verdict_48 : decode cX7_verdict 48 = .ok (.iload_n 1, 1) := by decide +kernel
theorem dX7_verdict_49 : decode cX7_verdict 49 = .ok (.invokevirtual 98, 3) := by decide +kernel
theorem dX7_verdict_52 : decode cX7_verdict 52 = .ok (.pop, 1) := by decide +kernel
theorem dX7_verdict_53 : decode cX7_verdict 53 = .ok (.aload_n 0, 1) := by decide +kernel
theorem dX7_verdict_54 : decode cX7_verdict 54 = .ok (.iload_n 2, 1) := by decide +kernel
theorem dX7_verdict_55 : decode cX7_verdict 55 = .ok (.iload_n 3, 1) := by decide +kernel
theorem dX7_verdict_56 : decode cX7_verdict 56 = .ok (.iload 4, 2) := by decide +kernel
theorem dX7_verdict_58 : decode cX7_verdict 58 = .ok (.invokevirtual 82, 3) := by decide +kernel
theorem dX7_verdict_61 : decode cX7_verdict 61 = .ok (.ireturn, 1) := by decide +kernel
set_option maxRecDepth 20000 in
theorem ggX7_lacking_X7_isModel : GoodIn wsX7_lacking wsX7_isModel := goodIn_r _ [6] (by decide +kernel) (by decide +kernel)
set_option maxRecDepth 20000 in
theorem gX7_lacking_X7_isModel : GoodIn wsX7_lacking (va_wsS RX7 95 yX7_isModel wsX7_isModel) := goodIn_app (goodIn_of _ (by decide +kernel)) ggX7_lacking_X7_isModel
set_option maxRecDepth 20000 in
theorem ggX7_lacking_X7_asks : GoodIn wsX7_lacking wsX7_asks := goodIn_r _ [10, 11, 50, 51, 52, 53, 54, 55, 56, 57, 58, 59, 60, 61] (by decide +kernel) (by decide +kernel)
set_option maxRecDepth 20000 in
theorem gX7_lacking_X7_asks : GoodIn wsX7_lacking (wsV RX7 49 RX7 yX7_asks wsX7_asks) := goodIn_app (goodIn_of _ (by decide +kernel)) ggX7_lacking_X7_asks
set_option maxRecDepth 20000 in
theorem ggX7_lacking_X7_most : GoodIn wsX7_lacking wsX7_most := goodIn_r _ [15, 16, 1, 17, 18, 19, 20, 5, 21, 22, 23, 24, 25, 26, 27, 28, 29, 30, 31, 32, 33, 34, 35, 2, 36, 37, 38, 39, 40, 41, 42, 43, 44, 45, 46, 47, 48, 49, 50, 51, 52, 53, 54, 55, 56, 57, 58, 59, 60, 61] (by decide +kernel) (by decide +kernel)
set_option maxRecDepth 20000 in
theorem gX7_lacking_X7_most : GoodIn wsX7_lacking (wsV RX7 98 RX7 yX7_most wsX7_most) := goodIn_app (goodIn_of _ (by decide +kernel)) ggX7_lacking_X7_most
theorem dX7_lacking_0 : decode cX7_lacking 0 = .ok (.aload_n 0, 1) := by decide +kernel
theorem dX7_lacking_1 : decode cX7_lacking 1 = .ok (.iload_n 1, 1) := by decide +kernel
theorem dX7_lacking_2 : decode cX7_lacking 2 = .ok (.invokestatic 95, 3) := by decide +kernel
theorem dX7_lacking_5 : decode cX7_lacking 5 = .ok (.invokevirtual 49, 3) := by decide +kernel
theorem dX7_lacking_8 : decode cX7_lacking 8 = .ok (.ifCond .ne 5, 3) := by decide +kernel
theorem dX7_lacking_11 : decode cX7_lacking 11 = .ok (.iconst 0, 1) := by decide +kernel
theorem dX7_lacking_12 : decode cX7_lacking 12 = .ok (.ireturn, 1) := by decide +kernel
theorem dX7_lacking_13 : decode cX7_lacking 13 = .ok (.aload_n 0, 1) := by decide +kernel
theorem dX7_lacking_14 : decode cX7_lacking 14 = .ok (.iload_n 1, 1) := by decide +kernel
theorem dX7_lacking_15 : decode cX7_lacking 15 = .ok (.invokevirtual 98, 3) := by decide +kernel
theorem dX7_lacking_18 : decode cX7_lacking 18 = .ok (.pop, 1) := by decide +kernel
theorem dX7_lacking_19 : decode cX7_lacking 19 = .ok (.iconst 0, 1) := by decide +kernel
theorem dX7_lacking_20 : decode cX7_lacking 20 = .ok (.istore_n 2, 1) := by decide +kernel
theorem dX7_lacking_21 : decode cX7_lacking 21 = .ok (.iconst 0, 1) := by decide +kernel
theorem dX7_lacking_22 : decode cX7_lacking 22 = .ok (.istore_n 3, 1) := by decide +kernel
theorem dX7_lacking_23 : decode cX7_lacking 23 = .ok (.iload_n 3, 1) := by decide +kernel
theorem dX7_lacking_24 : decode cX7_lacking 24 = .ok (.aload_n 0, 1) := by decide +kernel
theorem dX7_lacking_25 : decode cX7_lacking 25 = .ok (.getfield 7, 3) := by decide +kernel
theorem dX7_lacking_28 : decode cX7_lacking 28 = .ok (.iload_n 1, 1) := by decide +kernel
theorem dX7_lacking_29 : decode cX7_lacking 29 = .ok (.iaload, 1) := by decide +kernel
theorem dX7_lacking_30 : decode cX7_lacking 30 = .ok (.if_icmp .ge 27, 3) := by decide +kernel
theorem dX7_lacking_33 : decode cX7_lacking 33 = .ok (.iload_n 2, 1) := by decide +kernel
theorem dX7_lacking_34 : decode cX7_lacking 34 = .ok (.aload_n 0, 1) := by decide +kernel
theorem dX7_lacking_35 : decode cX7_lacking 35 = .ok (.getfield 35, 3) := by decide +kernel
theorem dX7_lacking_38 : decode cX7_lacking 38 = .ok (.iload_n 3, 1) := by decide +kernel
theorem dX7_lacking_39 : decode cX7_lacking 39 = .ok (.iaload, 1) := by decide +kernel
theorem dX7_lacking_40 : decode cX7_lacking 40 = .ok (.iconst (-1), 1) := by decide +kernel
theorem dX7_lacking_41 : decode cX7_lacking 41 = .ok (.if_icmp .ne 7, 3) := by decide +kernel
theorem dX7_lacking_44 : decode cX7_lacking 44 = .ok (.iconst 1, 1) := by decide +kernel
theorem dX7_lacking_45 : decode cX7_lacking 45 = .ok (.goto 4, 3) := by decide +kernel
theorem dX7_lacking_48 : decode cX7_lacking 48 = .ok (.iconst 0, 1) := by decide +kernel
theorem dX7_lacking_49 : decode cX7_lacking 49 = .ok (.iadd, 1) := by decide +kernel
theorem dX7_lacking_50 : decode cX7_lacking 50 = .ok (.istore_n 2, 1) := by decide +kernel
theorem dX7_lacking_51 : decode cX7_lacking 51 = .ok (.iinc 3 1, 3) := by decide +kernel
theorem dX7_lacking_54 : decode cX7_lacking 54 = .ok (.goto (-31), 3) := by decide +kernel
theorem dX7_lacking_57 : decode cX7_lacking 57 = .ok (.iload_n 2, 1) := by decide +kernel
theorem dX7_lacking_58 : decode cX7_lacking 58 = .ok (.ireturn, 1) := by decide +kernel
set_option maxRecDepth 20000 in
theorem ggX7_hints_X7_most : GoodIn wsX7_hints wsX7_most := goodIn_r _ [9, 10, 3, 11, 12, 13, 14, 8, 15, 16, 4, 17, 18, 19, 20, 21, 22, 23, 24, 25, 26, 27, 28, 29, 30, 31, 32, 33, 34, 35, 36, 37, 38, 39, 40, 41, 42, 43, 44, 45, 46, 47, 48, 49, 50, 51, 52, 53, 54, 55] (by decide +kernel) (by decide +kernel)
set_option maxRecDepth 20000 in
theorem gX7_hints_X7_most : GoodIn wsX7_hints (wsV RX7 98 RX7 yX7_most wsX7_most) := goodIn_app (goodIn_of _ (by decide +kernel)) ggX7_hints_X7_most
theorem dX7_hints_0 : decode cX7_hints 0 = .ok (.aload_n 0, 1) := by decide +kernel
theorem dX7_hints_1 : decode cX7_hints 1 = .ok (.iload_n 1, 1) := by decide +kernel
theorem dX7_hints_2 : decode cX7_hints 2 = .ok (.invokevirtual 98, 3) := by decide +kernel
theorem dX7_hints_5 : decode cX7_hints 5 = .ok (.istore_n 2, 1) := by decide +kernel
theorem dX7_hints_6 : decode cX7_hints 6 = .ok (.aload_n 0, 1) := by decide +kernel
theorem dX7_hints_7 : decode cX7_hints 7 = .ok (.iconst (-1), 1) := by decide +kernel
theorem dX7_hints_8 : decode cX7_hints 8 = .ok (.putfield 104, 3) := by decide +kernel
theorem dX7_hints_11 : decode cX7_hints 11 = .ok (.aload_n 0, 1) := by decide +kernel
theorem dX7_hints_12 : decode cX7_hints 12 = .ok (.iconst 0, 1) := by decide +kernel
theorem dX7_hints_13 : decode cX7_hints 13 = .ok (.putfield 107, 3) := by decide +kernel
theorem dX7_hints_16 : decode cX7_hints 16 = .ok (.iconst 0, 1) := by decide +kernel
theorem dX7_hints_17 : decode cX7_hints 17 = .ok (.istore_n 3, 1) := by decide +kernel
theorem dX7_hints_18 : decode cX7_hints 18 = .ok (.iload_n 3, 1) := by decide +kernel
theorem dX7_hints_19 : decode cX7_hints 19 = .ok (.bipush 100, 2) := by decide +kernel
theorem dX7_hints_21 : decode cX7_hints 21 = .ok (.if_icmp .ge 140, 3) := by decide +kernel
theorem dX7_hints_24 : decode cX7_hints 24 = .ok (.iload_n 3, 1) := by decide +kernel
theorem dX7_hints_25 : decode cX7_hints 25 = .ok (.bipush 20, 2) := by decide +kernel
theorem dX7_hints_27 : decode cX7_hints 27 = .ok (.idiv, 1) := by decide +kernel
theorem dX7_hints_28 : decode cX7_hints 28 = .ok (.istore 4, 2) := by decide +kernel
theorem dX7_hints_30 : decode cX7_hints 30 = .ok (.iload_n 3, 1) := by decide +kernel
theorem dX7_hints_31 : decode cX7_hints 31 = .ok (.iconst 4, 1) := by decide +kernel
theorem dX7_hints_32 : decode cX7_hints 32 = .ok (.idiv, 1) := by decide +kernel
theorem dX7_hints_33 : decode cX7_hints 33 = .ok (.iconst 5, 1) := by decide +kernel
theorem dX7_hints_34 : decode cX7_hints 34 = .ok (.irem, 1) := by decide +kernel
theorem dX7_hints_35 : decode cX7_hints 35 = .ok (.istore 5, 2) := by decide +kernel
theorem dX7_hints_37 : decode cX7_hints 37 = .ok (.iload 4, 2) := by decide +kernel
theorem dX7_hints_39 : decode cX7_hints 39 = .ok (.iload 5, 2) := by decide +kernel
theorem dX7_hints_41 : decode cX7_hints 41 = .ok (.if_icmp .eq 114, 3) := by decide +kernel
theorem dX7_hints_44 : decode cX7_hints 44 = .ok (.iload 4, 2) := by decide +kernel
theorem dX7_hints_46 : decode cX7_hints 46 = .ok (.aload_n 0, 1) := by decide +kernel
theorem dX7_hints_47 : decode cX7_hints 47 = .ok (.getfield 7, 3) := by decide +kernel
theorem dX7_hints_50 : decode cX7_hints 50 = .ok (.iconst 0, 1) := by decide +kernel
theorem dX7_hints_51 : decode cX7_hints 51 = .ok (.iaload, 1) := by decide +kernel
theorem dX7_hints_52 : decode cX7_hints 52 = .ok (.if_icmp .ge 103, 3) := by decide +kernel
theorem dX7_hints_55 : decode cX7_hints 55 = .ok (.iload 5, 2) := by decide +kernel
theorem dX7_hints_57 : decode cX7_hints 57 = .ok (.aload_n 0, 1) := by decide +kernel
theorem dX7_hints_58 : decode cX7_hints 58 = .ok (.getfield 7, 3) := by decide +kernel
theorem dX7_hints_61 : decode cX7_hints 61 = .ok (.iconst 0, 1) := by decide +kernel
theorem dX7_hints_62 : decode cX7_hints 62 = .ok (.iaload, 1) := by decide +kernel
theorem dX7_hints_63 : decode cX7_hints 63 = .ok (.if_icmp .ge 92, 3) := by decide +kernel
theorem dX7_hints_66 : decode cX7_hints 66 = .ok (.aload_n 0, 1) := by decide +kernel
theorem dX7_hints_67 : decode cX7_hints 67 = .ok (.getfield 16, 3) := by decide +kernel
theorem dX7_hints_70 : decode cX7_hints 70 = .ok (.iload_n 3, 1) := by decide +kernel
theorem dX7_hints_71 : decode cX7_hints 71 = .ok (.baload, 1) := by decide +kernel
theorem dX7_hints_72 : decode cX7_hints 72 = .ok (.ifCond .ne 83, 3) := by decide +kernel
theorem dX7_hints_75 : decode cX7_hints 75 = .ok (.aload_n 0, 1) := by decide +kernel
theorem dX7_hints_76 : decode cX7_hints 76 = .ok (.getfield 16, 3) := by decide +kernel
theorem dX7_hints_79 : decode cX7_hints 79 = .ok (.iload_n 3, 1) := by decide +kernel
theorem dX7_hints_80 : decode cX7_hints 80 = .ok (.iconst 1, 1) := by decide +kernel
theorem dX7_hints_81 : decode cX7_hints 81 = .ok (.bastore, 1) := by decide +kernel
theorem dX7_hints_82 : decode cX7_hints 82 = .ok (.aload_n 0, 1) := by decide +kernel
theorem dX7_hints_83 : decode cX7_hints 83 = .ok (.iload_n 1, 1) := by decide +kernel
theorem dX7_hints_84 : decode cX7_hints 84 = .ok (.invokevirtual 98, 3) := by decide +kernel
theorem dX7_hints_87 : decode cX7_hints 87 = .ok (.iload_n 2, 1) := by decide +kernel
theorem dX7_hints_88 : decode cX7_hints 88 = .ok (.isub, 1) := by decide +kernel
theorem dX7_hints_89 : decode cX7_hints 89 = .ok (.istore 6, 2) := by decide +kernel
theorem dX7_hints_91 : decode cX7_hints 91 = .ok (.aload_n 0, 1) := by decide +kernel
theorem dX7_hints_92 : decode cX7_hints 92 = .ok (.getfield 16, 3) := by decide +kernel
theorem dX7_hints_95 : decode cX7_hints 95 = .ok (.iload_n 3, 1) := by decide +kernel
theorem dX7_hints_96 : decode cX7_hints 96 = .ok (.iconst 0, 1) := by decide +kernel
theorem dX7_hints_97 : decode cX7_hints 97 = .ok (.bastore, 1) := by decide +kernel
theorem dX7_hints_98 : decode cX7_hints 98 = .ok (.aload_n 0, 1) := by decide +kernel
theorem dX7_hints_99 : decode cX7_hints 99 = .ok (.iload 6, 2) := by decide +kernel
theorem dX7_hints_101 : decode cX7_hints 101 = .ok (.aload_n 0, 1) := by decide +kernel
theorem dX7_hints_102 : decode cX7_hints 102 = .ok (.getfield 107, 3) := by decide +kernel
theorem dX7_hints_105 : decode cX7_hints 105 = .ok (.if_icmp .le 21, 3) := by decide +kernel
theorem dX7_hints_108 : decode cX7_hints 108 = .ok (.bipush 100, 2) := by decide +kernel
theorem dX7_hints_110 : decode cX7_hints 110 = .ok (.iload 4, 2) := by decide +kernel
theorem dX7_hints_112 : decode cX7_hints 112 = .ok (.imul, 1) := by decide +kernel
theorem dX7_hints_113 : decode cX7_hints 113 = .ok (.bipush 10, 2) := by decide +kernel
theorem dX7_hints_115 : decode cX7_hints 115 = .ok (.iload 5, 2) := by decide +kernel
theorem dX7_hints_117 : decode cX7_hints 117 = .ok (.imul, 1) := by decide +kernel
theorem dX7_hints_118 : decode cX7_hints 118 = .ok (.iadd, 1) := by decide +kernel
theorem dX7_hints_119 : decode cX7_hints 119 = .ok (.iload_n 3, 1) := by decide +kernel
theorem dX7_hints_120 : decode cX7_hints 120 = .ok (.iconst 4, 1) := by decide +kernel
theorem dX7_hints_121 : decode cX7_hints 121 = .ok (.irem, 1) := by decide +kernel
theorem dX7_hints_122 : decode cX7_hints 122 = .ok (.iadd, 1) := by decide +kernel
theorem dX7_hints_123 : decode cX7_hints 123 = .ok (.goto 7, 3) := by decide +kernel
theorem dX7_hints_126 : decode cX7_hints 126 = .ok (.aload_n 0, 1) := by decide +kernel
theorem dX7_hints_127 : decode cX7_hints 127 = .ok (.getfield 104, 3) := by decide +kernel
theorem dX7_hints_130 : decode cX7_hints 130 = .ok (.putfield 104, 3) := by decide +kernel
theorem dX7_hints_133 : decode cX7_hints 133 = .ok (.aload_n 0, 1) := by decide +kernel
theorem dX7_hints_134 : decode cX7_hints 134 = .ok (.iload 6, 2) := by decide +kernel
theorem dX7_hints_136 : decode cX7_hints 136 = .ok (.aload_n 0, 1) := by decide +kernel
theorem dX7_hints_137 : decode cX7_hints 137 = .ok (.getfield 107, 3) := by decide +kernel
theorem dX7_hints_140 : decode cX7_hints 140 = .ok (.if_icmp .le 8, 3) := by decide +kernel
theorem dX7_hints_143 : decode cX7_hints 143 = .ok (.iload 6, 2) := by decide +kernel
theorem dX7_hints_145 : decode cX7_hints 145 = .ok (.goto 7, 3) := by decide +kernel
theorem dX7_hints_148 : decode cX7_hints 148 = .ok (.aload_n 0, 1) := by decide +kernel
theorem dX7_hints_149 : decode cX7_hints 149 = .ok (.getfield 107, 3) := by decide +kernel
theorem dX7_hints_152 : decode cX7_hints 152 = .ok (.putfield 107, 3) := by decide +kernel
theorem dX7_hints_155 : decode cX7_hints 155 = .ok (.iinc 3 1, 3) := by decide +kernel
theorem dX7_hints_158 : decode cX7_hints 158 = .ok (.goto (-140), 3) := by decide +kernel
theorem dX7_hints_161 : decode cX7_hints 161 = .ok (.return_, 1) := by decide +kernel
set_option maxRecDepth 20000 in
theorem ggX7_hint_X7_isModel : GoodIn wsX7_hint wsX7_isModel := goodIn_r _ [5] (by decide +kernel) (by decide +kernel)
set_option maxRecDepth 20000 in
theorem gX7_hint_X7_isModel : GoodIn wsX7_hint (va_wsS RX7 95 yX7_isModel wsX7_isModel) := goodIn_app (goodIn_of _ (by decide +kernel)) ggX7_hint_X7_isModel
set_option maxRecDepth 20000 in
theorem ggX7_hint_X7_asks : GoodIn wsX7_hint wsX7_asks := goodIn_r _ [9, 10, 56, 57, 58, 59, 60, 61, 62, 63, 64, 65, 66, 67] (by decide +kernel) (by decide +kernel)
set_option maxRecDepth 20000 in
theorem gX7_hint_X7_asks : GoodIn wsX7_hint (wsV RX7 49 RX7 yX7_asks wsX7_asks) := goodIn_app (goodIn_of _ (by decide +kernel)) ggX7_hint_X7_asks
set_option maxRecDepth 20000 in
theorem ggX7_hint_X7_hints : GoodIn wsX7_hint wsX7_hints := goodIn_r _ [14, 1, 15, 16, 17, 18, 19, 20, 4, 21, 22, 23, 24, 25, 26, 27, 28, 29, 30, 31, 32, 33, 34, 35, 36, 37, 38, 39, 40, 41, 42, 43, 44, 45, 46, 47, 48, 49, 50, 51, 52, 53, 54, 55, 56, 57, 58, 59, 60, 61, 62, 63, 64, 65, 66, 67] (by decide +kernel) (by decide +kernel)
set_option maxRecDepth 20000 in
theorem gX7_hint_X7_hints : GoodIn wsX7_hint (wsV RX7 110 RX7 yX7_hints wsX7_hints) := goodIn_app (goodIn_of _ (by decide +kernel)) ggX7_hint_X7_hints
theorem dX7_hint_0 : decode cX7_hint 0 = .ok (.aload_n 0, 1) := by decide +kernel
theorem dX7_hint_1 : decode cX7_hint 1 = .ok (.iload_n 1, 1) := by decide +kernel
theorem dX7_hint_2 : decode cX7_hint 2 = .ok (.invokestatic 95, 3) := by decide +kernel
theorem dX7_hint_5 : decode cX7_hint 5 = .ok (.invokevirtual 49, 3) := by decide +kernel
theorem dX7_hint_8 : decode cX7_hint 8 = .ok (.ifCond .ne 5, 3) := by decide +kernel
theorem dX7_hint_11 : decode cX7_hint 11 = .ok (.iconst 0, 1) := by decide +kernel
theorem dX7_hint_12 : decode cX7_hint 12 = .ok (.ireturn, 1) := by decide +kernel
theorem dX7_hint_13 : decode cX7_hint 13 = .ok (.aload_n 0, 1) := by decide +kernel
theorem dX7_hint_14 : decode cX7_hint 14 = .ok (.iload_n 1, 1) := by decide +kernel
theorem dX7_hint_15 : decode cX7_hint 15 = .ok (.invokevirtual 110, 3) := by decide +kernel
theorem dX7_hint_18 : decode cX7_hint 18 = .ok (.aload_n 0, 1) := by decide +kernel
theorem dX7_hint_19 : decode cX7_hint 19 = .ok (.getfield 104, 3) := by decide +kernel
theorem dX7_hint_22 : decode cX7_hint 22 = .ok (.ireturn, 1) := by decide +kernel
set_option maxRecDepth 20000 in
theorem ggX7_gain_X7_isModel : GoodIn wsX7_gain wsX7_isModel := goodIn_r _ [5] (by decide +kernel) (by decide +kernel)
set_option maxRecDepth 20000 in
theorem gX7_gain_X7_isModel : GoodIn wsX7_gain (va_wsS RX7 95 yX7_isModel wsX7_isModel) := goodIn_app (goodIn_of _ (by decide +kernel)) ggX7_gain_X7_isModel
set_option maxRecDepth 20000 in
theorem ggX7_gain_X7_asks : GoodIn wsX7_gain wsX7_asks := goodIn_r _ [9, 10, 56, 57, 58, 59, 60, 61, 62, 63, 64, 65, 66, 67] (by decide +kernel) (by decide +kernel)
set_option maxRecDepth 20000 in
theorem gX7_gain_X7_asks : GoodIn wsX7_gain (wsV RX7 49 RX7 yX7_asks wsX7_asks) := goodIn_app (goodIn_of _ (by decide +kernel)) ggX7_gain_X7_asks
set_option maxRecDepth 20000 in
theorem ggX7_gain_X7_hints : GoodIn wsX7_gain wsX7_hints := goodIn_r _ [14, 15, 1, 16, 17, 18, 19, 20, 4, 21, 22, 23, 24, 25, 26, 27, 28, 29, 30, 31, 32, 33, 34, 35, 36, 37, 38, 39, 40, 41, 42, 43, 44, 45, 46, 47, 48, 49, 50, 51, 52, 53, 54, 55, 56, 57, 58, 59, 60, 61, 62, 63, 64, 65, 66, 67] (by decide +kernel) (by decide +kernel)
set_option maxRecDepth 20000 in
theorem gX7_gain_X7_hints : GoodIn wsX7_gain (wsV RX7 110 RX7 yX7_hints wsX7_hints) := goodIn_app (goodIn_of _ (by decide +kernel)) ggX7_gain_X7_hints
theorem dX7_gain_0 : decode cX7_gain 0 = .ok (.aload_n 0, 1) := by decide +kernel
theorem dX7_gain_1 : decode cX7_gain 1 = .ok (.iload_n 1, 1) := by decide +kernel
theorem dX7_gain_2 : decode cX7_gain 2 = .ok (.invokestatic 95, 3) := by decide +kernel
theorem dX7_gain_5 : decode cX7_gain 5 = .ok (.invokevirtual 49, 3) := by decide +kernel
theorem dX7_gain_8 : decode cX7_gain 8 = .ok (.ifCond .ne 5, 3) := by decide +kernel
theorem dX7_gain_11 : decode cX7_gain 11 = .ok (.iconst 0, 1) := by decide +kernel
theorem dX7_gain_12 : decode cX7_gain 12 = .ok (.ireturn, 1) := by decide +kernel
theorem dX7_gain_13 : decode cX7_gain 13 = .ok (.aload_n 0, 1) := by decide +kernel
theorem dX7_gain_14 : decode cX7_gain 14 = .ok (.iload_n 1, 1) := by decide +kernel
theorem dX7_gain_15 : decode cX7_gain 15 = .ok (.invokevirtual 110, 3) := by decide +kernel
theorem dX7_gain_18 : decode cX7_gain 18 = .ok (.aload_n 0, 1) := by decide +kernel
theorem dX7_gain_19 : decode cX7_gain 19 = .ok (.getfield 107, 3) := by decide +kernel
theorem dX7_gain_22 : decode cX7_gain 22 = .ok (.ireturn, 1) := by decide +kernel
theorem dJ6_bitCount_0f7a4_0 : decode cJ6_bitCount_0f7a4 0 = .ok (.iload_n 0, 1) := by decide +kernel
theorem dJ6_bitCount_0f7a4_1 : decode cJ6_bitCount_0f7a4 1 = .ok (.iload_n 0, 1) := by decide +kernel
theorem dJ6_bitCount_0f7a4_2 : decode cJ6_bitCount_0f7a4 2 = .ok (.iconst 1, 1) := by decide +kernel
theorem dJ6_bitCount_0f7a4_3 : decode cJ6_bitCount_0f7a4 3 = .ok (.iushr, 1) := by decide +kernel
theorem dJ6_bitCount_0f7a4_4 : decode cJ6_bitCount_0f7a4 4 = .ok (.ldc_w 265, 3) := by decide +kernel
theorem dJ6_bitCount_0f7a4_7 : decode cJ6_bitCount_0f7a4 7 = .ok (.iand, 1) := by decide +kernel
theorem dJ6_bitCount_0f7a4_8 : decode cJ6_bitCount_0f7a4 8 = .ok (.isub, 1) := by decide +kernel
theorem dJ6_bitCount_0f7a4_9 : decode cJ6_bitCount_0f7a4 9 = .ok (.istore_n 0, 1) := by decide +kernel
theorem dJ6_bitCount_0f7a4_10 : decode cJ6_bitCount_0f7a4 10 = .ok (.iload_n 0, 1) := by decide +kernel
theorem dJ6_bitCount_0f7a4_11 : decode cJ6_bitCount_0f7a4 11 = .ok (.ldc_w 266, 3) := by decide +kernel
theorem dJ6_bitCount_0f7a4_14 : decode cJ6_bitCount_0f7a4 14 = .ok (.iand, 1) := by decide +kernel
theorem dJ6_bitCount_0f7a4_15 : decode cJ6_bitCount_0f7a4 15 = .ok (.iload_n 0, 1) := by decide +kernel
theorem dJ6_bitCount_0f7a4_16 : decode cJ6_bitCount_0f7a4 16 = .ok (.iconst 2, 1) := by decide +kernel
theorem dJ6_bitCount_0f7a4_17 : decode cJ6_bitCount_0f7a4 17 = .ok (.iushr, 1) := by decide +kernel
theorem dJ6_bitCount_0f7a4_18 : decode cJ6_bitCount_0f7a4 18 = .ok (.ldc_w 266, 3) := by decide +kernel
theorem dJ6_bitCount_0f7a4_21 : decode cJ6_bitCount_0f7a4 21 = .ok (.iand, 1) := by decide +kernel
theorem dJ6_bitCount_0f7a4_22 : decode cJ6_bitCount_0f7a4 22 = .ok (.iadd, 1) := by decide +kernel
theorem dJ6_bitCount_0f7a4_23 : decode cJ6_bitCount_0f7a4 23 = .ok (.istore_n 0, 1) := by decide +kernel
theorem dJ6_bitCount_0f7a4_24 : decode cJ6_bitCount_0f7a4 24 = .ok (.iload_n 0, 1) := by decide +kernel
theorem dJ6_bitCount_0f7a4_25 : decode cJ6_bitCount_0f7a4 25 = .ok (.iload_n 0, 1) := by decide +kernel
theorem dJ6_bitCount_0f7a4_26 : decode cJ6_bitCount_0f7a4 26 = .ok (.iconst 4, 1) := by decide +kernel
theorem dJ6_bitCount_0f7a4_27 : decode cJ6_bitCount_0f7a4 27 = .ok (.iushr, 1) := by decide +kernel
theorem dJ6_bitCount_0f7a4_28 : decode cJ6_bitCount_0f7a4 28 = .ok (.iadd, 1) := by decide +kernel
theorem dJ6_bitCount_0f7a4_29 : decode cJ6_bitCount_0f7a4 29 = .ok (.ldc_w 267, 3) := by decide +kernel
theorem dJ6_bitCount_0f7a4_32 : decode cJ6_bitCount_0f7a4 32 = .ok (.iand, 1) := by decide +kernel
theorem dJ6_bitCount_0f7a4_33 : decode cJ6_bitCount_0f7a4 33 = .ok (.istore_n 0, 1) := by decide +kernel
theorem dJ6_bitCount_0f7a4_34 : decode cJ6_bitCount_0f7a4 34 = .ok (.iload_n 0, 1) := by decide +kernel
theorem dJ6_bitCount_0f7a4_35 : decode cJ6_bitCount_0f7a4 35 = .ok (.iload_n 0, 1) := by decide +kernel
theorem dJ6_bitCount_0f7a4_36 : decode cJ6_bitCount_0f7a4 36 = .ok (.bipush 8, 2) := by decide +kernel
theorem dJ6_bitCount_0f7a4_38 : decode cJ6_bitCount_0f7a4 38 = .ok (.iushr, 1) := by decide +kernel
theorem dJ6_bitCount_0f7a4_39 : decode cJ6_bitCount_0f7a4 39 = .ok (.iadd, 1) := by decide +kernel
theorem dJ6_bitCount_0f7a4_40 : decode cJ6_bitCount_0f7a4 40 = .ok (.istore_n 0, 1) := by decide +kernel
theorem dJ6_bitCount_0f7a4_41 : decode cJ6_bitCount_0f7a4 41 = .ok (.iload_n 0, 1) := by decide +kernel
theorem dJ6_bitCount_0f7a4_42 : decode cJ6_bitCount_0f7a4 42 = .ok (.iload_n 0, 1) := by decide +kernel
theorem dJ6_bitCount_0f7a4_43 : decode cJ6_bitCount_0f7a4 43 = .ok (.bipush 16, 2) := by decide +kernel
theorem dJ6_bitCount_0f7a4_45 : decode cJ6_bitCount_0f7a4 45 = .ok (.iushr, 1) := by decide +kernel
theorem dJ6_bitCount_0f7a4_46 : decode cJ6_bitCount_0f7a4 46 = .ok (.iadd, 1) := by decide +kernel
theorem dJ6_bitCount_0f7a4_47 : decode cJ6_bitCount_0f7a4 47 = .ok (.istore_n 0, 1) := by decide +kernel
theorem dJ6_bitCount_0f7a4_48 : decode cJ6_bitCount_0f7a4 48 = .ok (.iload_n 0, 1) := by decide +kernel
theorem dJ6_bitCount_0f7a4_49 : decode cJ6_bitCount_0f7a4 49 = .ok (.bipush 63, 2) := by decide +kernel
theorem dJ6_bitCount_0f7a4_51 : decode cJ6_bitCount_0f7a4 51 = .ok (.iand, 1) := by decide +kernel
theorem dJ6_bitCount_0f7a4_52 : decode cJ6_bitCount_0f7a4 52 = .ok (.ireturn, 1) := by decide +kernel
theorem dJ9_max_7cf53_0 : decode cJ9_max_7cf53 0 = .ok (.iload_n 0, 1) := by decide +kernel
theorem dJ9_max_7cf53_1 : decode cJ9_max_7cf53 1 = .ok (.iload_n 1, 1) := by decide +kernel
theorem dJ9_max_7cf53_2 : decode cJ9_max_7cf53 2 = .ok (.if_icmp .lt 7, 3) := by decide +kernel
theorem dJ9_max_7cf53_5 : decode cJ9_max_7cf53 5 = .ok (.iload_n 0, 1) := by decide +kernel
theorem dJ9_max_7cf53_6 : decode cJ9_max_7cf53 6 = .ok (.goto 4, 3) := by decide +kernel
theorem dJ9_max_7cf53_9 : decode cJ9_max_7cf53 9 = .ok (.iload_n 1, 1) := by decide +kernel
theorem dJ9_max_7cf53_10 : decode cJ9_max_7cf53 10 = .ok (.ireturn, 1) := by decide +kernel
set_option maxRecDepth 20000 in
theorem ggL_addIdea_X6_addIdea : GoodIn wsL_addIdea wsX6_addIdea := goodIn_ca (goodIn_ca (goodIn_r _ [7, 8, 9, 10, 11, 12, 6, 13, 14, 15, 16, 17, 18, 19, 20, 21, 22, 23, 24, 25, 26, 27, 28, 29, 30, 31, 32, 33, 34, 35, 36, 37, 38, 39, 40, 41, 42, 43, 44, 45, 46] (by decide +kernel) (by decide +kernel)) (goodIn_sub (fun _ h => List.mem_cons_of_mem _ (List.mem_append_left _ (List.mem_append_right _ h))) (by decide +kernel))) (goodIn_sub (fun _ h => List.mem_cons_of_mem _ (List.mem_append_right _ h)) (by decide +kernel))
set_option maxRecDepth 20000 in
theorem gL_addIdea_X6_addIdea : GoodIn wsL_addIdea (wsV RL 7 RX6 yX6_addIdea wsX6_addIdea) := goodIn_app (goodIn_of _ (by decide +kernel)) ggL_addIdea_X6_addIdea
theorem dL_addIdea_0 : decode cL_addIdea 0 = .ok (.aload_n 3, 1) := by decide +kernel
theorem dL_addIdea_1 : decode cL_addIdea 1 = .ok (.iconst 0, 1) := by decide +kernel
theorem dL_addIdea_2 : decode cL_addIdea 2 = .ok (.aload_n 0, 1) := by decide +kernel
theorem dL_addIdea_3 : decode cL_addIdea 3 = .ok (.iload_n 1, 1) := by decide +kernel
theorem dL_addIdea_4 : decode cL_addIdea 4 = .ok (.iload_n 2, 1) := by decide +kernel
theorem dL_addIdea_5 : decode cL_addIdea 5 = .ok (.invokevirtual 7, 3) := by decide +kernel
theorem dL_addIdea_8 : decode cL_addIdea 8 = .ok (.i2l, 1) := by decide +kernel
theorem dL_addIdea_9 : decode cL_addIdea 9 = .ok (.lastore, 1) := by decide +kernel
theorem dL_addIdea_10 : decode cL_addIdea 10 = .ok (.goto 11, 3) := by decide +kernel
theorem dL_addIdea_13 : decode cL_addIdea 13 = .ok (.astore 4, 2) := by decide +kernel
theorem dL_addIdea_15 : decode cL_addIdea 15 = .ok (.iconst 1, 1) := by decide +kernel
theorem dL_addIdea_16 : decode cL_addIdea 16 = .ok (.ireturn, 1) := by decide +kernel
theorem dL_addIdea_17 : decode cL_addIdea 17 = .ok (.astore 4, 2) := by decide +kernel
theorem dL_addIdea_19 : decode cL_addIdea 19 = .ok (.iconst 2, 1) := by decide +kernel
theorem dL_addIdea_20 : decode cL_addIdea 20 = .ok (.ireturn, 1) := by decide +kernel
theorem dL_addIdea_21 : decode cL_addIdea 21 = .ok (.iconst 0, 1) := by decide +kernel
theorem dL_addIdea_22 : decode cL_addIdea 22 = .ok (.ireturn, 1) := by decide +kernel
set_option maxRecDepth 20000 in
theorem ggL_link_X6_link : GoodIn wsL_link wsX6_link := goodIn_ca (goodIn_ca (goodIn_r _ [7, 8, 9, 10, 6, 11, 12, 13, 14, 15, 16, 17, 18, 19, 20, 21, 22, 23, 24, 25, 26, 27, 28, 29, 30, 31, 32, 33, 34, 35, 36, 37, 38, 39, 40, 41, 42, 43, 44, 45, 46, 47, 48, 49, 50, 51, 52, 53, 54, 55, 56, 57, 58, 59, 60, 61, 62, 63, 64] (by decide +kernel) (by decide +kernel)) (goodIn_sub (fun _ h => List.mem_cons_of_mem _ (List.mem_append_left _ (List.mem_append_right _ h))) (by decide +kernel))) (goodIn_sub (fun _ h => List.mem_cons_of_mem _ (List.mem_append_right _ h)) (by decide +kernel))
set_option maxRecDepth 20000 in
theorem gL_link_X6_link : GoodIn wsL_link (wsV RL 17 RX6 yX6_link wsX6_link) := goodIn_app (goodIn_of _ (by decide +kernel)) ggL_link_X6_link
theorem dL_link_0 : decode cL_link 0 = .ok (.aload 5, 2) := by decide +kernel
theorem dL_link_2 : decode cL_link 2 = .ok (.iconst 0, 1) := by decide +kernel
theorem dL_link_3 : decode cL_link 3 = .ok (.aload_n 0, 1) := by decide +kernel
theorem dL_link_4 : decode cL_link 4 = .ok (.iload_n 1, 1) := by decide +kernel
theorem dL_link_5 : decode cL_link 5 = .ok (.iload_n 2, 1) := by decide +kernel
theorem dL_link_6 : decode cL_link 6 = .ok (.iload_n 3, 1) := by decide +kernel
theorem dL_link_7 : decode cL_link 7 = .ok (.iload 4, 2) := by decide +kernel
theorem dL_link_9 : decode cL_link 9 = .ok (.invokevirtual 17, 3) := by decide +kernel
theorem dL_link_12 : decode cL_link 12 = .ok (.ifCond .eq 7, 3) := by decide +kernel
theorem dL_link_15 : decode cL_link 15 = .ok (.lconst 1, 1) := by decide +kernel
theorem dL_link_16 : decode cL_link 16 = .ok (.goto 4, 3) := by decide +kernel
theorem dL_link_19 : decode cL_link 19 = .ok (.lconst 0, 1) := by decide +kernel
theorem dL_link_20 : decode cL_link 20 = .ok (.lastore, 1) := by decide +kernel
theorem dL_link_21 : decode cL_link 21 = .ok (.goto 11, 3) := by decide +kernel
theorem dL_link_24 : decode cL_link 24 = .ok (.astore 6, 2) := by decide +kernel
theorem dL_link_26 : decode cL_link 26 = .ok (.iconst 1, 1) := by decide +kernel
theorem dL_link_27 : decode cL_link 27 = .ok (.ireturn, 1) := by decide +kernel
theorem dL_link_28 : decode cL_link 28 = .ok (.astore 6, 2) := by decide +kernel
theorem dL_link_30 : decode cL_link 30 = .ok (.iconst 2, 1) := by decide +kernel
theorem dL_link_31 : decode cL_link 31 = .ok (.ireturn, 1) := by decide +kernel
theorem dL_link_32 : decode cL_link 32 = .ok (.iconst 0, 1) := by decide +kernel
theorem dL_link_33 : decode cL_link 33 = .ok (.ireturn, 1) := by decide +kernel
set_option maxRecDepth 20000 in
theorem ggL_clear_X6_clear : GoodIn wsL_clear wsX6_clear := goodIn_ca (goodIn_r _ [6, 7, 8, 9, 5, 10, 11, 12, 13, 14, 15, 16, 17, 18, 19, 20, 21, 22, 23, 24, 25, 26, 27, 28, 29, 30, 31, 32, 33, 34, 35, 36, 37, 38, 39, 40, 41, 42, 43, 44, 45, 46, 47, 48, 49, 50, 51, 52, 53, 54, 55, 56, 57, 58, 59, 60, 61, 62] (by decide +kernel) (by decide +kernel)) (goodIn_sub (fun _ h => List.mem_cons_of_mem _ (List.mem_append_right _ h)) (by decide +kernel))
set_option maxRecDepth 20000 in
theorem gL_clear_X6_clear : GoodIn wsL_clear (wsV RL 23 RX6 yX6_clear wsX6_clear) := goodIn_app (goodIn_of _ (by decide +kernel)) ggL_clear_X6_clear
theorem dL_clear_0 : decode cL_clear 0 = .ok (.aload_n 2, 1) := by decide +kernel
theorem dL_clear_1 : decode cL_clear 1 = .ok (.iconst 0, 1) := by decide +kernel
theorem dL_clear_2 : decode cL_clear 2 = .ok (.aload_n 0, 1) := by decide +kernel
theorem dL_clear_3 : decode cL_clear 3 = .ok (.iload_n 1, 1) := by decide +kernel
theorem dL_clear_4 : decode cL_clear 4 = .ok (.invokevirtual 23, 3) := by decide +kernel
