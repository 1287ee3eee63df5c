theorem dX7_turns_23 : decode cX7_turns 23 = .ok (.aload_n 0, 1) := by decide +kernel
theorem dX7_turns_24 : decode cX7_turns 24 = .ok (.getfield 7, 3) := by decide +kernel
theorem dX7_turns_27 : decode cX7_turns 27 = .ok (.iconst 0, 1) := by decide +kernel
theorem dX7_turns_28 : decode cX7_turns 28 = .ok (.iaload, 1) := by decide +kernel
theorem dX7_turns_29 : decode cX7_turns 29 = .ok (.if_icmp .ge 36, 3) := by decide +kernel
theorem dX7_turns_32 : decode cX7_turns 32 = .ok (.aload_n 0, 1) := by decide +kernel
theorem dX7_turns_33 : decode cX7_turns 33 = .ok (.getfield 29, 3) := by decide +kernel
theorem dX7_turns_36 : decode cX7_turns 36 = .ok (.iload_n 2, 1) := by decide +kernel
theorem dX7_turns_37 : decode cX7_turns 37 = .ok (.iaload, 1) := by decide +kernel
theorem dX7_turns_38 : decode cX7_turns 38 = .ok (.aload_n 0, 1) := by decide +kernel
theorem dX7_turns_39 : decode cX7_turns 39 = .ok (.getfield 7, 3) := by decide +kernel
theorem dX7_turns_42 : decode cX7_turns 42 = .ok (.iload_n 1, 1) := by decide +kernel
theorem dX7_turns_43 : decode cX7_turns 43 = .ok (.iaload, 1) := by decide +kernel
theorem dX7_turns_44 : decode cX7_turns 44 = .ok (.if_icmp .ge 15, 3) := by decide +kernel
theorem dX7_turns_47 : decode cX7_turns 47 = .ok (.aload_n 0, 1) := by decide +kernel
theorem dX7_turns_48 : decode cX7_turns 48 = .ok (.getfield 35, 3) := by decide +kernel
theorem dX7_turns_51 : decode cX7_turns 51 = .ok (.aload_n 0, 1) := by decide +kernel
theorem dX7_turns_52 : decode cX7_turns 52 = .ok (.getfield 29, 3) := by decide +kernel
theorem dX7_turns_55 : decode cX7_turns 55 = .ok (.iload_n 2, 1) := by decide +kernel
theorem dX7_turns_56 : decode cX7_turns 56 = .ok (.iaload, 1) := by decide +kernel
theorem dX7_turns_57 : decode cX7_turns 57 = .ok (.iload_n 2, 1) := by decide +kernel
theorem dX7_turns_58 : decode cX7_turns 58 = .ok (.iastore, 1) := by decide +kernel
theorem dX7_turns_59 : decode cX7_turns 59 = .ok (.iinc 2 1, 3) := by decide +kernel
theorem dX7_turns_62 : decode cX7_turns 62 = .ok (.goto (-40), 3) := by decide +kernel
theorem dX7_turns_65 : decode cX7_turns 65 = .ok (.return_, 1) := by decide +kernel
set_option maxRecDepth 20000 in
theorem ggX7_verdictOf_X7_at : GoodIn wsX7_verdictOf wsX7_at := goodIn_r _ [7] (by decide +kernel) (by decide +kernel)
set_option maxRecDepth 20000 in
theorem gX7_verdictOf_X7_at : GoodIn wsX7_verdictOf (va_wsS RX7 68 yX7_at wsX7_at) := goodIn_app (goodIn_of _ (by decide +kernel)) ggX7_verdictOf_X7_at
theorem dX7_verdictOf_0 : decode cX7_verdictOf 0 = .ok (.aload_n 0, 1) := by decide +kernel
theorem dX7_verdictOf_1 : decode cX7_verdictOf 1 = .ok (.getfield 35, 3) := by decide +kernel
theorem dX7_verdictOf_4 : decode cX7_verdictOf 4 = .ok (.iload_n 1, 1) := by decide +kernel
theorem dX7_verdictOf_5 : decode cX7_verdictOf 5 = .ok (.iaload, 1) := by decide +kernel
theorem dX7_verdictOf_6 : decode cX7_verdictOf 6 = .ok (.istore 4, 2) := by decide +kernel
theorem dX7_verdictOf_8 : decode cX7_verdictOf 8 = .ok (.aload_n 0, 1) := by decide +kernel
theorem dX7_verdictOf_9 : decode cX7_verdictOf 9 = .ok (.getfield 35, 3) := by decide +kernel
theorem dX7_verdictOf_12 : decode cX7_verdictOf 12 = .ok (.iload_n 2, 1) := by decide +kernel
theorem dX7_verdictOf_13 : decode cX7_verdictOf 13 = .ok (.iaload, 1) := by decide +kernel
theorem dX7_verdictOf_14 : decode cX7_verdictOf 14 = .ok (.istore 5, 2) := by decide +kernel
theorem dX7_verdictOf_16 : decode cX7_verdictOf 16 = .ok (.iload 4, 2) := by decide +kernel
theorem dX7_verdictOf_18 : decode cX7_verdictOf 18 = .ok (.iconst (-1), 1) := by decide +kernel
theorem dX7_verdictOf_19 : decode cX7_verdictOf 19 = .ok (.if_icmp .eq 9, 3) := by decide +kernel
theorem dX7_verdictOf_22 : decode cX7_verdictOf 22 = .ok (.iload 5, 2) := by decide +kernel
theorem dX7_verdictOf_24 : decode cX7_verdictOf 24 = .ok (.iconst (-1), 1) := by decide +kernel
theorem dX7_verdictOf_25 : decode cX7_verdictOf 25 = .ok (.if_icmp .ne 5, 3) := by decide +kernel
theorem dX7_verdictOf_28 : decode cX7_verdictOf 28 = .ok (.iconst 0, 1) := by decide +kernel
theorem dX7_verdictOf_29 : decode cX7_verdictOf 29 = .ok (.ireturn, 1) := by decide +kernel
theorem dX7_verdictOf_30 : decode cX7_verdictOf 30 = .ok (.iconst 0, 1) := by decide +kernel
theorem dX7_verdictOf_31 : decode cX7_verdictOf 31 = .ok (.istore 6, 2) := by decide +kernel
theorem dX7_verdictOf_33 : decode cX7_verdictOf 33 = .ok (.iconst 0, 1) := by decide +kernel
theorem dX7_verdictOf_34 : decode cX7_verdictOf 34 = .ok (.istore 7, 2) := by decide +kernel
theorem dX7_verdictOf_36 : decode cX7_verdictOf 36 = .ok (.iload 7, 2) := by decide +kernel
theorem dX7_verdictOf_38 : decode cX7_verdictOf 38 = .ok (.iconst 4, 1) := by decide +kernel
theorem dX7_verdictOf_39 : decode cX7_verdictOf 39 = .ok (.if_icmp .ge 39, 3) := by decide +kernel
theorem dX7_verdictOf_42 : decode cX7_verdictOf 42 = .ok (.iload 6, 2) := by decide +kernel
theorem dX7_verdictOf_44 : decode cX7_verdictOf 44 = .ok (.ifCond .ne 21, 3) := by decide +kernel
theorem dX7_verdictOf_47 : decode cX7_verdictOf 47 = .ok (.aload_n 0, 1) := by decide +kernel
theorem dX7_verdictOf_48 : decode cX7_verdictOf 48 = .ok (.getfield 16, 3) := by decide +kernel
theorem dX7_verdictOf_51 : decode cX7_verdictOf 51 = .ok (.iconst 0, 1) := by decide +kernel
theorem dX7_verdictOf_52 : decode cX7_verdictOf 52 = .ok (.iload 4, 2) := by decide +kernel
theorem dX7_verdictOf_54 : decode cX7_verdictOf 54 = .ok (.iload 5, 2) := by decide +kernel
theorem dX7_verdictOf_56 : decode cX7_verdictOf 56 = .ok (.iload 7, 2) := by decide +kernel
theorem dX7_verdictOf_58 : decode cX7_verdictOf 58 = .ok (.invokestatic 68, 3) := by decide +kernel
theorem dX7_verdictOf_61 : decode cX7_verdictOf 61 = .ok (.baload, 1) := by decide +kernel
theorem dX7_verdictOf_62 : decode cX7_verdictOf 62 = .ok (.ifCond .eq 7, 3) := by decide +kernel
theorem dX7_verdictOf_65 : decode cX7_verdictOf 65 = .ok (.iconst 1, 1) := by decide +kernel
theorem dX7_verdictOf_66 : decode cX7_verdictOf 66 = .ok (.goto 4, 3) := by decide +kernel
theorem dX7_verdictOf_69 : decode cX7_verdictOf 69 = .ok (.iconst 0, 1) := by decide +kernel
theorem dX7_verdictOf_70 : decode cX7_verdictOf 70 = .ok (.istore 6, 2) := by decide +kernel
theorem dX7_verdictOf_72 : decode cX7_verdictOf 72 = .ok (.iinc 7 1, 3) := by decide +kernel
theorem dX7_verdictOf_75 : decode cX7_verdictOf 75 = .ok (.goto (-39), 3) := by decide +kernel
theorem dX7_verdictOf_78 : decode cX7_verdictOf 78 = .ok (.aload_n 0, 1) := by decide +kernel
theorem dX7_verdictOf_79 : decode cX7_verdictOf 79 = .ok (.getfield 20, 3) := by decide +kernel
theorem dX7_verdictOf_82 : decode cX7_verdictOf 82 = .ok (.iconst 0, 1) := by decide +kernel
theorem dX7_verdictOf_83 : decode cX7_verdictOf 83 = .ok (.iload 4, 2) := by decide +kernel
theorem dX7_verdictOf_85 : decode cX7_verdictOf 85 = .ok (.iload 5, 2) := by decide +kernel
theorem dX7_verdictOf_87 : decode cX7_verdictOf 87 = .ok (.iload_n 3, 1) := by decide +kernel
theorem dX7_verdictOf_88 : decode cX7_verdictOf 88 = .ok (.invokestatic 68, 3) := by decide +kernel
theorem dX7_verdictOf_91 : decode cX7_verdictOf 91 = .ok (.baload, 1) := by decide +kernel
theorem dX7_verdictOf_92 : decode cX7_verdictOf 92 = .ok (.ifCond .eq 7, 3) := by decide +kernel
theorem dX7_verdictOf_95 : decode cX7_verdictOf 95 = .ok (.iconst 3, 1) := by decide +kernel
theorem dX7_verdictOf_96 : decode cX7_verdictOf 96 = .ok (.goto 34, 3) := by decide +kernel
theorem dX7_verdictOf_99 : decode cX7_verdictOf 99 = .ok (.iload 6, 2) := by decide +kernel
theorem dX7_verdictOf_101 : decode cX7_verdictOf 101 = .ok (.ifCond .eq 7, 3) := by decide +kernel
theorem dX7_verdictOf_104 : decode cX7_verdictOf 104 = .ok (.iconst 2, 1) := by decide +kernel
theorem dX7_verdictOf_105 : decode cX7_verdictOf 105 = .ok (.goto 25, 3) := by decide +kernel
theorem dX7_verdictOf_108 : decode cX7_verdictOf 108 = .ok (.aload_n 0, 1) := by decide +kernel
theorem dX7_verdictOf_109 : decode cX7_verdictOf 109 = .ok (.getfield 16, 3) := by decide +kernel
theorem dX7_verdictOf_112 : decode cX7_verdictOf 112 = .ok (.iconst 0, 1) := by decide +kernel
theorem dX7_verdictOf_113 : decode cX7_verdictOf 113 = .ok (.iload 5, 2) := by decide +kernel
theorem dX7_verdictOf_115 : decode cX7_verdictOf 115 = .ok (.iload 4, 2) := by decide +kernel
theorem dX7_verdictOf_117 : decode cX7_verdictOf 117 = .ok (.iload_n 3, 1) := by decide +kernel
theorem dX7_verdictOf_118 : decode cX7_verdictOf 118 = .ok (.invokestatic 68, 3) := by decide +kernel
theorem dX7_verdictOf_121 : decode cX7_verdictOf 121 = .ok (.baload, 1) := by decide +kernel
theorem dX7_verdictOf_122 : decode cX7_verdictOf 122 = .ok (.ifCond .eq 7, 3) := by decide +kernel
theorem dX7_verdictOf_125 : decode cX7_verdictOf 125 = .ok (.iconst 1, 1) := by decide +kernel
theorem dX7_verdictOf_126 : decode cX7_verdictOf 126 = .ok (.goto 4, 3) := by decide +kernel
theorem dX7_verdictOf_129 : decode cX7_verdictOf 129 = .ok (.iconst 0, 1) := by decide +kernel
theorem dX7_verdictOf_130 : decode cX7_verdictOf 130 = .ok (.ireturn, 1) := by decide +kernel
set_option maxRecDepth 20000 in
theorem ggX7_pointsOf_X7_verdictOf : GoodIn wsX7_pointsOf wsX7_verdictOf := goodIn_r _ [6, 7, 1, 8, 9, 10, 5, 11, 12, 13, 14, 15, 16, 17, 18, 19, 20, 21, 22, 23] (by decide +kernel) (by decide +kernel)
set_option maxRecDepth 20000 in
theorem gX7_pointsOf_X7_verdictOf : GoodIn wsX7_pointsOf (wsV RX7 82 RX7 yX7_verdictOf wsX7_verdictOf) := goodIn_app (goodIn_of _ (by decide +kernel)) ggX7_pointsOf_X7_verdictOf
theorem dX7_pointsOf_0 : decode cX7_pointsOf 0 = .ok (.iconst 0, 1) := by decide +kernel
theorem dX7_pointsOf_1 : decode cX7_pointsOf 1 = .ok (.istore_n 2, 1) := by decide +kernel
theorem dX7_pointsOf_2 : decode cX7_pointsOf 2 = .ok (.iconst 0, 1) := by decide +kernel
theorem dX7_pointsOf_3 : decode cX7_pointsOf 3 = .ok (.istore_n 3, 1) := by decide +kernel
theorem dX7_pointsOf_4 : decode cX7_pointsOf 4 = .ok (.iload_n 3, 1) := by decide +kernel
theorem dX7_pointsOf_5 : decode cX7_pointsOf 5 = .ok (.bipush 100, 2) := by decide +kernel
theorem dX7_pointsOf_7 : decode cX7_pointsOf 7 = .ok (.if_icmp .ge 56, 3) := by decide +kernel
theorem dX7_pointsOf_10 : decode cX7_pointsOf 10 = .ok (.aload_n 0, 1) := by decide +kernel
theorem dX7_pointsOf_11 : decode cX7_pointsOf 11 = .ok (.getfield 16, 3) := by decide +kernel
theorem dX7_pointsOf_14 : decode cX7_pointsOf 14 = .ok (.bipush 100, 2) := by decide +kernel
theorem dX7_pointsOf_16 : decode cX7_pointsOf 16 = .ok (.iload_n 1, 1) := by decide +kernel
theorem dX7_pointsOf_17 : decode cX7_pointsOf 17 = .ok (.imul, 1) := by decide +kernel
theorem dX7_pointsOf_18 : decode cX7_pointsOf 18 = .ok (.iload_n 3, 1) := by decide +kernel
theorem dX7_pointsOf_19 : decode cX7_pointsOf 19 = .ok (.iadd, 1) := by decide +kernel
theorem dX7_pointsOf_20 : decode cX7_pointsOf 20 = .ok (.baload, 1) := by decide +kernel
theorem dX7_pointsOf_21 : decode cX7_pointsOf 21 = .ok (.ifCond .eq 36, 3) := by decide +kernel
theorem dX7_pointsOf_24 : decode cX7_pointsOf 24 = .ok (.aload_n 0, 1) := by decide +kernel
theorem dX7_pointsOf_25 : decode cX7_pointsOf 25 = .ok (.iload_n 3, 1) := by decide +kernel
theorem dX7_pointsOf_26 : decode cX7_pointsOf 26 = .ok (.bipush 20, 2) := by decide +kernel
theorem dX7_pointsOf_28 : decode cX7_pointsOf 28 = .ok (.idiv, 1) := by decide +kernel
theorem dX7_pointsOf_29 : decode cX7_pointsOf 29 = .ok (.iload_n 3, 1) := by decide +kernel
theorem dX7_pointsOf_30 : decode cX7_pointsOf 30 = .ok (.iconst 4, 1) := by decide +kernel
theorem dX7_pointsOf_31 : decode cX7_pointsOf 31 = .ok (.idiv, 1) := by decide +kernel
theorem dX7_pointsOf_32 : decode cX7_pointsOf 32 = .ok (.iconst 5, 1) := by decide +kernel
theorem dX7_pointsOf_33 : decode cX7_pointsOf 33 = .ok (.irem, 1) := by decide +kernel
theorem dX7_pointsOf_34 : decode cX7_pointsOf 34 = .ok (.iload_n 3, 1) := by decide +kernel
theorem dX7_pointsOf_35 : decode cX7_pointsOf 35 = .ok (.iconst 4, 1) := by decide +kernel
theorem dX7_pointsOf_36 : decode cX7_pointsOf 36 = .ok (.irem, 1) := by decide +kernel
theorem dX7_pointsOf_37 : decode cX7_pointsOf 37 = .ok (.invokevirtual 82, 3) := by decide +kernel
theorem dX7_pointsOf_40 : decode cX7_pointsOf 40 = .ok (.istore 4, 2) := by decide +kernel
theorem dX7_pointsOf_42 : decode cX7_pointsOf 42 = .ok (.iload_n 2, 1) := by decide +kernel
theorem dX7_pointsOf_43 : decode cX7_pointsOf 43 = .ok (.iload 4, 2) := by decide +kernel
theorem dX7_pointsOf_45 : decode cX7_pointsOf 45 = .ok (.iconst 3, 1) := by decide +kernel
theorem dX7_pointsOf_46 : decode cX7_pointsOf 46 = .ok (.if_icmp .ne 7, 3) := by decide +kernel
theorem dX7_pointsOf_49 : decode cX7_pointsOf 49 = .ok (.iconst 4, 1) := by decide +kernel
theorem dX7_pointsOf_50 : decode cX7_pointsOf 50 = .ok (.goto 5, 3) := by decide +kernel
theorem dX7_pointsOf_53 : decode cX7_pointsOf 53 = .ok (.iload 4, 2) := by decide +kernel
theorem dX7_pointsOf_55 : decode cX7_pointsOf 55 = .ok (.iadd, 1) := by decide +kernel
theorem dX7_pointsOf_56 : decode cX7_pointsOf 56 = .ok (.istore_n 2, 1) := by decide +kernel
theorem dX7_pointsOf_57 : decode cX7_pointsOf 57 = .ok (.iinc 3 1, 3) := by decide +kernel
theorem dX7_pointsOf_60 : decode cX7_pointsOf 60 = .ok (.goto (-56), 3) := by decide +kernel
theorem dX7_pointsOf_63 : decode cX7_pointsOf 63 = .ok (.iload_n 2, 1) := by decide +kernel
theorem dX7_pointsOf_64 : decode cX7_pointsOf 64 = .ok (.ireturn, 1) := by decide +kernel
set_option maxRecDepth 20000 in
theorem ggX7_most_X7_closes : GoodIn wsX7_most wsX7_closes := goodIn_r _ [8, 9, 10, 11, 12, 13, 7, 14, 15, 16, 17, 18, 38, 39, 40, 41, 42, 43, 44, 45, 46, 47, 48, 49] (by decide +kernel) (by decide +kernel)
set_option maxRecDepth 20000 in
theorem gX7_most_X7_closes : GoodIn wsX7_most (wsV RX7 78 RX7 yX7_closes wsX7_closes) := goodIn_app (goodIn_of _ (by decide +kernel)) ggX7_most_X7_closes
set_option maxRecDepth 20000 in
theorem ggX7_most_X7_turns : GoodIn wsX7_most wsX7_turns := goodIn_r _ [22, 23, 2, 1, 38, 39, 40, 41, 42, 43, 44, 45, 46, 47, 48, 49] (by decide +kernel) (by decide +kernel)
set_option maxRecDepth 20000 in
theorem gX7_most_X7_turns : GoodIn wsX7_most (wsV RX7 86 RX7 yX7_turns wsX7_turns) := goodIn_app (goodIn_of _ (by decide +kernel)) ggX7_most_X7_turns
set_option maxRecDepth 20000 in
theorem ggX7_most_X7_pointsOf : GoodIn wsX7_most wsX7_pointsOf := goodIn_r _ [27, 10, 28, 29, 30, 7, 31, 23, 9, 16, 17, 18, 38, 39, 40, 41, 42, 43, 44, 45, 46, 47, 48, 49] (by decide +kernel) (by decide +kernel)
set_option maxRecDepth 20000 in
theorem gX7_most_X7_pointsOf : GoodIn wsX7_most (wsV RX7 89 RX7 yX7_pointsOf wsX7_pointsOf) := goodIn_app (goodIn_of _ (by decide +kernel)) ggX7_most_X7_pointsOf
set_option maxRecDepth 20000 in
theorem ggX7_most_X7_may : GoodIn wsX7_most wsX7_may := goodIn_r _ [35, 1, 2, 36, 37, 38, 39, 40, 41, 42, 43, 44, 45, 46, 47, 48, 49] (by decide +kernel) (by decide +kernel)
set_option maxRecDepth 20000 in
theorem gX7_most_X7_may : GoodIn wsX7_most (wsV RX7 92 RX7 yX7_may wsX7_may) := goodIn_app (goodIn_of _ (by decide +kernel)) ggX7_most_X7_may
theorem dX7_most_0 : decode cX7_most 0 = .ok (.aload_n 0, 1) := by decide +kernel
theorem dX7_most_1 : decode cX7_most 1 = .ok (.iconst 0, 1) := by decide +kernel
theorem dX7_most_2 : decode cX7_most 2 = .ok (.invokevirtual 78, 3) := by decide +kernel
theorem dX7_most_5 : decode cX7_most 5 = .ok (.iconst (-1), 1) := by decide +kernel
theorem dX7_most_6 : decode cX7_most 6 = .ok (.istore_n 2, 1) := by decide +kernel
theorem dX7_most_7 : decode cX7_most 7 = .ok (.iconst 0, 1) := by decide +kernel
theorem dX7_most_8 : decode cX7_most 8 = .ok (.istore_n 3, 1) := by decide +kernel
theorem dX7_most_9 : decode cX7_most 9 = .ok (.aload_n 0, 1) := by decide +kernel
theorem dX7_most_10 : decode cX7_most 10 = .ok (.getfield 29, 3) := by decide +kernel
theorem dX7_most_13 : decode cX7_most 13 = .ok (.iconst 0, 1) := by decide +kernel
theorem dX7_most_14 : decode cX7_most 14 = .ok (.iconst (-1), 1) := by decide +kernel
theorem dX7_most_15 : decode cX7_most 15 = .ok (.iastore, 1) := by decide +kernel
theorem dX7_most_16 : decode cX7_most 16 = .ok (.iload_n 3, 1) := by decide +kernel
theorem dX7_most_17 : decode cX7_most 17 = .ok (.ifCond .lt 155, 3) := by decide +kernel
theorem dX7_most_20 : decode cX7_most 20 = .ok (.iload_n 3, 1) := by decide +kernel
theorem dX7_most_21 : decode cX7_most 21 = .ok (.aload_n 0, 1) := by decide +kernel
theorem dX7_most_22 : decode cX7_most 22 = .ok (.getfield 7, 3) := by decide +kernel
theorem dX7_most_25 : decode cX7_most 25 = .ok (.iconst 0, 1) := by decide +kernel
theorem dX7_most_26 : decode cX7_most 26 = .ok (.iaload, 1) := by decide +kernel
theorem dX7_most_27 : decode cX7_most 27 = .ok (.if_icmp .ne 69, 3) := by decide +kernel
theorem dX7_most_30 : decode cX7_most 30 = .ok (.aload_n 0, 1) := by decide +kernel
theorem dX7_most_31 : decode cX7_most 31 = .ok (.iload_n 1, 1) := by decide +kernel
theorem dX7_most_32 : decode cX7_most 32 = .ok (.invokevirtual 86, 3) := by decide +kernel
theorem dX7_most_35 : decode cX7_most 35 = .ok (.aload_n 0, 1) := by decide +kernel
theorem dX7_most_36 : decode cX7_most 36 = .ok (.iload_n 1, 1) := by decide +kernel
theorem dX7_most_37 : decode cX7_most 37 = .ok (.invokevirtual 89, 3) := by decide +kernel
theorem dX7_most_40 : decode cX7_most 40 = .ok (.istore 4, 2) := by decide +kernel
theorem dX7_most_42 : decode cX7_most 42 = .ok (.iconst 0, 1) := by decide +kernel
theorem dX7_most_43 : decode cX7_most 43 = .ok (.istore 5, 2) := by decide +kernel
theorem dX7_most_45 : decode cX7_most 45 = .ok (.iload 5, 2) := by decide +kernel
theorem dX7_most_47 : decode cX7_most 47 = .ok (.iconst 5, 1) := by decide +kernel
theorem dX7_most_48 : decode cX7_most 48 = .ok (.if_icmp .ge 29, 3) := by decide +kernel
theorem dX7_most_51 : decode cX7_most 51 = .ok (.iload 4, 2) := by decide +kernel
theorem dX7_most_53 : decode cX7_most 53 = .ok (.iload_n 2, 1) := by decide +kernel
theorem dX7_most_54 : decode cX7_most 54 = .ok (.if_icmp .le 23, 3) := by decide +kernel
theorem dX7_most_57 : decode cX7_most 57 = .ok (.aload_n 0, 1) := by decide +kernel
theorem dX7_most_58 : decode cX7_most 58 = .ok (.getfield 32, 3) := by decide +kernel
theorem dX7_most_61 : decode cX7_most 61 = .ok (.iload 5, 2) := by decide +kernel
theorem dX7_most_63 : decode cX7_most 63 = .ok (.aload_n 0, 1) := by decide +kernel
theorem dX7_most_64 : decode cX7_most 64 = .ok (.getfield 29, 3) := by decide +kernel
theorem dX7_most_67 : decode cX7_most 67 = .ok (.iload 5, 2) := by decide +kernel
theorem dX7_most_69 : decode cX7_most 69 = .ok (.iaload, 1) := by decide +kernel
theorem dX7_most_70 : decode cX7_most 70 = .ok (.iastore, 1) := by decide +kernel
theorem dX7_most_71 : decode cX7_most 71 = .ok (.iinc 5 1, 3) := by decide +kernel
theorem dX7_most_74 : decode cX7_most 74 = .ok (.goto (-29), 3) := by decide +kernel
theorem dX7_most_77 : decode cX7_most 77 = .ok (.iload 4, 2) := by decide +kernel
theorem dX7_most_79 : decode cX7_most 79 = .ok (.iload_n 2, 1) := by decide +kernel
theorem dX7_most_80 : decode cX7_most 80 = .ok (.if_icmp .le 8, 3) := by decide +kernel
theorem dX7_most_83 : decode cX7_most 83 = .ok (.iload 4, 2) := by decide +kernel
theorem dX7_most_85 : decode cX7_most 85 = .ok (.goto 4, 3) := by decide +kernel
theorem dX7_most_88 : decode cX7_most 88 = .ok (.iload_n 2, 1) := by decide +kernel
theorem dX7_most_89 : decode cX7_most 89 = .ok (.istore_n 2, 1) := by decide +kernel
theorem dX7_most_90 : decode cX7_most 90 = .ok (.iinc 3 (-1), 3) := by decide +kernel
theorem dX7_most_93 : decode cX7_most 93 = .ok (.goto (-77), 3) := by decide +kernel
theorem dX7_most_96 : decode cX7_most 96 = .ok (.aload_n 0, 1) := by decide +kernel
theorem dX7_most_97 : decode cX7_most 97 = .ok (.getfield 29, 3) := by decide +kernel
theorem dX7_most_100 : decode cX7_most 100 = .ok (.iload_n 3, 1) := by decide +kernel
theorem dX7_most_101 : decode cX7_most 101 = .ok (.dup2, 1) := by decide +kernel
theorem dX7_most_102 : decode cX7_most 102 = .ok (.iaload, 1) := by decide +kernel
theorem dX7_most_103 : decode cX7_most 103 = .ok (.iconst 1, 1) := by decide +kernel
theorem dX7_most_104 : decode cX7_most 104 = .ok (.iadd, 1) := by decide +kernel
theorem dX7_most_105 : decode cX7_most 105 = .ok (.iastore, 1) := by decide +kernel
theorem dX7_most_106 : decode cX7_most 106 = .ok (.aload_n 0, 1) := by decide +kernel
theorem dX7_most_107 : decode cX7_most 107 = .ok (.getfield 29, 3) := by decide +kernel
theorem dX7_most_110 : decode cX7_most 110 = .ok (.iload_n 3, 1) := by decide +kernel
theorem dX7_most_111 : decode cX7_most 111 = .ok (.iaload, 1) := by decide +kernel
theorem dX7_most_112 : decode cX7_most 112 = .ok (.aload_n 0, 1) := by decide +kernel
theorem dX7_most_113 : decode cX7_most 113 = .ok (.getfield 7, 3) := by decide +kernel
theorem dX7_most_116 : decode cX7_most 116 = .ok (.iload_n 1, 1) := by decide +kernel
theorem dX7_most_117 : decode cX7_most 117 = .ok (.iaload, 1) := by decide +kernel
theorem dX7_most_118 : decode cX7_most 118 = .ok (.if_icmp .le 9, 3) := by decide +kernel
theorem dX7_most_121 : decode cX7_most 121 = .ok (.iinc 3 (-1), 3) := by decide +kernel
theorem dX7_most_124 : decode cX7_most 124 = .ok (.goto (-108), 3) := by decide +kernel
theorem dX7_most_127 : decode cX7_most 127 = .ok (.aload_n 0, 1) := by decide +kernel
theorem dX7_most_128 : decode cX7_most 128 = .ok (.iload_n 1, 1) := by decide +kernel
theorem dX7_most_129 : decode cX7_most 129 = .ok (.iload_n 3, 1) := by decide +kernel
theorem dX7_most_130 : decode cX7_most 130 = .ok (.invokevirtual 92, 3) := by decide +kernel
theorem dX7_most_133 : decode cX7_most 133 = .ok (.ifCond .eq (-117), 3) := by decide +kernel
theorem dX7_most_136 : decode cX7_most 136 = .ok (.iinc 3 1, 3) := by decide +kernel
theorem dX7_most_139 : decode cX7_most 139 = .ok (.aload_n 0, 1) := by decide +kernel
theorem dX7_most_140 : decode cX7_most 140 = .ok (.getfield 29, 3) := by decide +kernel
theorem dX7_most_143 : decode cX7_most 143 = .ok (.iload_n 3, 1) := by decide +kernel
theorem dX7_most_144 : decode cX7_most 144 = .ok (.iconst 5, 1) := by decide +kernel
theorem dX7_most_145 : decode cX7_most 145 = .ok (.if_icmp .ge 7, 3) := by decide +kernel
theorem dX7_most_148 : decode cX7_most 148 = .ok (.iload_n 3, 1) := by decide +kernel
theorem dX7_most_149 : decode cX7_most 149 = .ok (.goto 4, 3) := by decide +kernel
theorem dX7_most_152 : decode cX7_most 152 = .ok (.iconst 0, 1) := by decide +kernel
theorem dX7_most_153 : decode cX7_most 153 = .ok (.iload_n 3, 1) := by decide +kernel
theorem dX7_most_154 : decode cX7_most 154 = .ok (.iconst 5, 1) := by decide +kernel
theorem dX7_most_155 : decode cX7_most 155 = .ok (.if_icmp .ge 7, 3) := by decide +kernel
theorem dX7_most_158 : decode cX7_most 158 = .ok (.iconst (-1), 1) := by decide +kernel
theorem dX7_most_159 : decode cX7_most 159 = .ok (.goto 9, 3) := by decide +kernel
theorem dX7_most_162 : decode cX7_most 162 = .ok (.aload_n 0, 1) := by decide +kernel
theorem dX7_most_163 : decode cX7_most 163 = .ok (.getfield 29, 3) := by decide +kernel
theorem dX7_most_166 : decode cX7_most 166 = .ok (.iconst 0, 1) := by decide +kernel
theorem dX7_most_167 : decode cX7_most 167 = .ok (.iaload, 1) := by decide +kernel
theorem dX7_most_168 : decode cX7_most 168 = .ok (.iastore, 1) := by decide +kernel
theorem dX7_most_169 : decode cX7_most 169 = .ok (.goto (-153), 3) := by decide +kernel
theorem dX7_most_172 : decode cX7_most 172 = .ok (.iconst 0, 1) := by decide +kernel
theorem dX7_most_173 : decode cX7_most 173 = .ok (.istore 4, 2) := by decide +kernel
theorem dX7_most_175 : decode cX7_most 175 = .ok (.iload 4, 2) := by decide +kernel
theorem dX7_most_177 : decode cX7_most 177 = .ok (.iconst 5, 1) := by decide +kernel
theorem dX7_most_178 : decode cX7_most 178 = .ok (.if_icmp .ge 23, 3) := by decide +kernel
theorem dX7_most_181 : decode cX7_most 181 = .ok (.aload_n 0, 1) := by decide +kernel
theorem dX7_most_182 : decode cX7_most 182 = .ok (.getfield 29, 3) := by decide +kernel
theorem dX7_most_185 : decode cX7_most 185 = .ok (.iload 4, 2) := by decide +kernel
theorem dX7_most_187 : decode cX7_most 187 = .ok (.aload_n 0, 1) := by decide +kernel
theorem dX7_most_188 : decode cX7_most 188 = .ok (.getfield 32, 3) := by decide +kernel
theorem dX7_most_191 : decode cX7_most 191 = .ok (.iload 4, 2) := by decide +kernel
theorem dX7_most_193 : decode cX7_most 193 = .ok (.iaload, 1) := by decide +kernel
theorem dX7_most_194 : decode cX7_most 194 = .ok (.iastore, 1) := by decide +kernel
theorem dX7_most_195 : decode cX7_most 195 = .ok (.iinc 4 1, 3) := by decide +kernel
theorem dX7_most_198 : decode cX7_most 198 = .ok (.goto (-23), 3) := by decide +kernel
theorem dX7_most_201 : decode cX7_most 201 = .ok (.aload_n 0, 1) := by decide +kernel
theorem dX7_most_202 : decode cX7_most 202 = .ok (.iload_n 1, 1) := by decide +kernel
theorem dX7_most_203 : decode cX7_most 203 = .ok (.invokevirtual 86, 3) := by decide +kernel
theorem dX7_most_206 : decode cX7_most 206 = .ok (.iload_n 2, 1) := by decide +kernel
theorem dX7_most_207 : decode cX7_most 207 = .ok (.ireturn, 1) := by decide +kernel
set_option maxRecDepth 20000 in
theorem ggX7_points_X7_isModel : GoodIn wsX7_points wsX7_isModel := goodIn_r _ [4] (by decide +kernel) (by decide +kernel)
set_option maxRecDepth 20000 in
theorem gX7_points_X7_isModel : GoodIn wsX7_points (va_wsS RX7 95 yX7_isModel wsX7_isModel) := goodIn_app (goodIn_of _ (by decide +kernel)) ggX7_points_X7_isModel
set_option maxRecDepth 20000 in
theorem ggX7_points_X7_asks : GoodIn wsX7_points wsX7_asks := goodIn_r _ [8, 9, 50, 51, 52, 53, 54, 55, 56, 57, 58, 59, 60, 61] (by decide +kernel) (by decide +kernel)
set_option maxRecDepth 20000 in
theorem gX7_points_X7_asks : GoodIn wsX7_points (wsV RX7 49 RX7 yX7_asks wsX7_asks) := goodIn_app (goodIn_of _ (by decide +kernel)) ggX7_points_X7_asks
set_option maxRecDepth 20000 in
theorem ggX7_points_X7_most : GoodIn wsX7_points wsX7_most := goodIn_r _ [13, 14, 15, 16, 17, 18, 19, 3, 20, 21, 22, 23, 24, 25, 26, 27, 28, 29, 30, 31, 32, 33, 34, 35, 36, 37, 38, 39, 40, 41, 42, 43, 44, 45, 46, 47, 48, 49, 50, 51, 52, 53, 54, 55, 56, 57, 58, 59, 60, 61] (by decide +kernel) (by decide +kernel)
set_option maxRecDepth 20000 in
theorem gX7_points_X7_most : GoodIn wsX7_points (wsV RX7 98 RX7 yX7_most wsX7_most) := goodIn_app (goodIn_of _ (by decide +kernel)) ggX7_points_X7_most
theorem dX7_points_0 : decode cX7_points 0 = .ok (.aload_n 0, 1) := by decide +kernel
theorem dX7_points_1 : decode cX7_points 1 = .ok (.iload_n 1, 1) := by decide +kernel
theorem dX7_points_2 : decode cX7_points 2 = .ok (.invokestatic 95, 3) := by decide +kernel
theorem dX7_points_5 : decode cX7_points 5 = .ok (.invokevirtual 49, 3) := by decide +kernel
theorem dX7_points_8 : decode cX7_points 8 = .ok (.ifCond .eq 11, 3) := by decide +kernel
theorem dX7_points_11 : decode cX7_points 11 = .ok (.aload_n 0, 1) := by decide +kernel
theorem dX7_points_12 : decode cX7_points 12 = .ok (.iload_n 1, 1) := by decide +kernel
theorem dX7_points_13 : decode cX7_points 13 = .ok (.invokevirtual 98, 3) := by decide +kernel
theorem dX7_points_16 : decode cX7_points 16 = .ok (.goto 4, 3) := by decide +kernel
theorem dX7_points_19 : decode cX7_points 19 = .ok (.iconst 0, 1) := by decide +kernel
theorem dX7_points_20 : decode cX7_points 20 = .ok (.ireturn, 1) := by decide +kernel
set_option maxRecDepth 20000 in
theorem ggX7_pointsByTrying_X7_isModel : GoodIn wsX7_pointsByTrying wsX7_isModel := goodIn_r _ [4] (by decide +kernel) (by decide +kernel)
set_option maxRecDepth 20000 in
theorem gX7_pointsByTrying_X7_isModel : GoodIn wsX7_pointsByTrying (va_wsS RX7 95 yX7_isModel wsX7_isModel) := goodIn_app (goodIn_of _ (by decide +kernel)) ggX7_pointsByTrying_X7_isModel
set_option maxRecDepth 20000 in
theorem ggX7_pointsByTrying_X7_asks : GoodIn wsX7_pointsByTrying wsX7_asks := goodIn_r _ [8, 9, 50, 51, 52, 53, 54, 55, 56, 57, 58, 59, 60, 61] (by decide +kernel) (by decide +kernel)
set_option maxRecDepth 20000 in
theorem gX7_pointsByTrying_X7_asks : GoodIn wsX7_pointsByTrying (wsV RX7 49 RX7 yX7_asks wsX7_asks) := goodIn_app (goodIn_of _ (by decide +kernel)) ggX7_pointsByTrying_X7_asks
set_option maxRecDepth 20000 in
theorem ggX7_pointsByTrying_X7_most : GoodIn wsX7_pointsByTrying wsX7_most := goodIn_r _ [13, 14, 15, 16, 17, 18, 19, 3, 20, 21, 22, 23, 24, 25, 26, 27, 28, 29, 30, 31, 32, 33, 34, 35, 36, 37, 38, 39, 40, 41, 42, 43, 44, 45, 46, 47, 48, 49, 50, 51, 52, 53, 54, 55, 56, 57, 58, 59, 60, 61] (by decide +kernel) (by decide +kernel)
set_option maxRecDepth 20000 in
theorem gX7_pointsByTrying_X7_most : GoodIn wsX7_pointsByTrying (wsV RX7 98 RX7 yX7_most wsX7_most) := goodIn_app (goodIn_of _ (by decide +kernel)) ggX7_pointsByTrying_X7_most
theorem dX7_pointsByTrying_0 : decode cX7_pointsByTrying 0 = .ok (.aload_n 0, 1) := by decide +kernel
theorem dX7_pointsByTrying_1 : decode cX7_pointsByTrying 1 = .ok (.iload_n 1, 1) := by decide +kernel
theorem dX7_pointsByTrying_2 : decode cX7_pointsByTrying 2 = .ok (.invokestatic 95, 3) := by decide +kernel
theorem dX7_pointsByTrying_5 : decode cX7_pointsByTrying 5 = .ok (.invokevirtual 49, 3) := by decide +kernel
theorem dX7_pointsByTrying_8 : decode cX7_pointsByTrying 8 = .ok (.ifCond .eq 11, 3) := by decide +kernel
theorem dX7_pointsByTrying_11 : decode cX7_pointsByTrying 11 = .ok (.aload_n 0, 1) := by decide +kernel
theorem dX7_pointsByTrying_12 : decode cX7_pointsByTrying 12 = .ok (.iload_n 1, 1) := by decide +kernel
theorem dX7_pointsByTrying_13 : decode cX7_pointsByTrying 13 = .ok (.invokevirtual 98, 3) := by decide +kernel
theorem dX7_pointsByTrying_16 : decode cX7_pointsByTrying 16 = .ok (.goto 4, 3) := by decide +kernel
theorem dX7_pointsByTrying_19 : decode cX7_pointsByTrying 19 = .ok (.iconst 0, 1) := by decide +kernel
theorem dX7_pointsByTrying_20 : decode cX7_pointsByTrying 20 = .ok (.ireturn, 1) := by decide +kernel
set_option maxRecDepth 20000 in
theorem ggX7_markOf_X7_linksOf : GoodIn wsX7_markOf wsX7_linksOf := goodIn_r _ [5, 6, 46, 47, 48, 49, 50, 51, 52, 53, 54, 55, 56, 57] (by decide +kernel) (by decide +kernel)
set_option maxRecDepth 20000 in
theorem gX7_markOf_X7_linksOf : GoodIn wsX7_markOf (wsV RX7 72 RX7 yX7_linksOf wsX7_linksOf) := goodIn_app (goodIn_of _ (by decide +kernel)) ggX7_markOf_X7_linksOf
set_option maxRecDepth 20000 in
theorem ggX7_markOf_X7_most : GoodIn wsX7_markOf wsX7_most := goodIn_r _ [10, 11, 12, 13, 14, 15, 16, 4, 17, 18, 6, 19, 20, 21, 22, 23, 24, 25, 26, 27, 28, 29, 30, 31, 32, 33, 34, 35, 36, 37, 38, 39, 40, 41, 42, 43, 44, 45, 46, 47, 48, 49, 50, 51, 52, 53, 54, 55, 56, 57] (by decide +kernel) (by decide +kernel)
set_option maxRecDepth 20000 in
theorem gX7_markOf_X7_most : GoodIn wsX7_markOf (wsV RX7 98 RX7 yX7_most wsX7_most) := goodIn_app (goodIn_of _ (by decide +kernel)) ggX7_markOf_X7_most
theorem dX7_markOf_0 : decode cX7_markOf 0 = .ok (.aload_n 0, 1) := by decide +kernel
theorem dX7_markOf_1 : decode cX7_markOf 1 = .ok (.iload_n 1, 1) := by decide +kernel
theorem dX7_markOf_2 : decode cX7_markOf 2 = .ok (.invokevirtual 72, 3) := by decide +kernel
theorem dX7_markOf_5 : decode cX7_markOf 5 = .ok (.istore_n 2, 1) := by decide +kernel
theorem dX7_markOf_6 : decode cX7_markOf 6 = .ok (.iload_n 2, 1) := by decide +kernel
theorem dX7_markOf_7 : decode cX7_markOf 7 = .ok (.ifCond .ne 7, 3) := by decide +kernel
theorem dX7_markOf_10 : decode cX7_markOf 10 = .ok (.iconst 0, 1) := by decide +kernel
theorem dX7_markOf_11 : decode cX7_markOf 11 = .ok (.goto 15, 3) := by decide +kernel
theorem dX7_markOf_14 : decode cX7_markOf 14 = .ok (.bipush 100, 2) := by decide +kernel
theorem dX7_markOf_16 : decode cX7_markOf 16 = .ok (.aload_n 0, 1) := by decide +kernel
theorem dX7_markOf_17 : decode cX7_markOf 17 = .ok (.iload_n 1, 1) := by decide +kernel
theorem dX7_markOf_18 : decode cX7_markOf 18 = .ok (.invokevirtual 98, 3) := by decide +kernel
theorem dX7_markOf_21 : decode cX7_markOf 21 = .ok (.imul, 1) := by decide +kernel
theorem dX7_markOf_22 : decode cX7_markOf 22 = .ok (.iconst 4, 1) := by decide +kernel
theorem dX7_markOf_23 : decode cX7_markOf 23 = .ok (.iload_n 2, 1) := by decide +kernel
theorem dX7_markOf_24 : decode cX7_markOf 24 = .ok (.imul, 1) := by decide +kernel
theorem dX7_markOf_25 : decode cX7_markOf 25 = .ok (.idiv, 1) := by decide +kernel
theorem dX7_markOf_26 : decode cX7_markOf 26 = .ok (.ireturn, 1) := by decide +kernel
set_option maxRecDepth 20000 in
theorem ggX7_mark_X7_isModel : GoodIn wsX7_mark wsX7_isModel := goodIn_r _ [4] (by decide +kernel) (by decide +kernel)
set_option maxRecDepth 20000 in
theorem gX7_mark_X7_isModel : GoodIn wsX7_mark (va_wsS RX7 95 yX7_isModel wsX7_isModel) := goodIn_app (goodIn_of _ (by decide +kernel)) ggX7_mark_X7_isModel
set_option maxRecDepth 20000 in
theorem ggX7_mark_X7_asks : GoodIn wsX7_mark wsX7_asks := goodIn_r _ [8, 9, 58, 59, 60, 61, 62, 63, 64, 65, 66, 67, 68, 69] (by decide +kernel) (by decide +kernel)
set_option maxRecDepth 20000 in
theorem gX7_mark_X7_asks : GoodIn wsX7_mark (wsV RX7 49 RX7 yX7_asks wsX7_asks) := goodIn_app (goodIn_of _ (by decide +kernel)) ggX7_mark_X7_asks
set_option maxRecDepth 20000 in
theorem ggX7_mark_X7_markOf : GoodIn wsX7_mark wsX7_markOf := goodIn_r _ [13, 14, 15, 16, 3, 17, 18, 19, 20, 21, 22, 23, 24, 25, 26, 27, 28, 29, 30, 31, 32, 33, 34, 35, 36, 37, 38, 39, 40, 41, 42, 43, 44, 45, 46, 47, 48, 49, 50, 51, 52, 53, 54, 55, 56, 57, 58, 59, 60, 61, 62, 63, 64, 65, 66, 67, 68, 69] (by decide +kernel) (by decide +kernel)
set_option maxRecDepth 20000 in
theorem gX7_mark_X7_markOf : GoodIn wsX7_mark (wsV RX7 101 RX7 yX7_markOf wsX7_markOf) := goodIn_app (goodIn_of _ (by decide +kernel)) ggX7_mark_X7_markOf
theorem dX7_mark_0 : decode cX7_mark 0 = .ok (.aload_n 0, 1) := by decide +kernel
theorem dX7_mark_1 : decode cX7_mark 1 = .ok (.iload_n 1, 1) := by decide +kernel
theorem dX7_mark_2 : decode cX7_mark 2 = .ok (.invokestatic 95, 3) := by decide +kernel
theorem dX7_mark_5 : decode cX7_mark 5 = .ok (.invokevirtual 49, 3) := by decide +kernel
theorem dX7_mark_8 : decode cX7_mark 8 = .ok (.ifCond .eq 11, 3) := by decide +kernel
theorem dX7_mark_11 : decode cX7_mark 11 = .ok (.aload_n 0, 1) := by decide +kernel
theorem dX7_mark_12 : decode cX7_mark 12 = .ok (.iload_n 1, 1) := by decide +kernel
theorem dX7_mark_13 : decode cX7_mark 13 = .ok (.invokevirtual 101, 3) := by decide +kernel
theorem dX7_mark_16 : decode cX7_mark 16 = .ok (.goto 4, 3) := by decide +kernel
theorem dX7_mark_19 : decode cX7_mark 19 = .ok (.iconst 0, 1) := by decide +kernel
theorem dX7_mark_20 : decode cX7_mark 20 = .ok (.ireturn, 1) := by decide +kernel
set_option maxRecDepth 20000 in
theorem ggX7_bestModel_X7_linksOf : GoodIn wsX7_bestModel wsX7_linksOf := goodIn_r _ [6, 7, 51, 52, 53, 54, 55, 56, 57, 58, 59, 60, 61, 62] (by decide +kernel) (by decide +kernel)
set_option maxRecDepth 20000 in
theorem gX7_bestModel_X7_linksOf : GoodIn wsX7_bestModel (wsV RX7 72 RX7 yX7_linksOf wsX7_linksOf) := goodIn_app (goodIn_of _ (by decide +kernel)) ggX7_bestModel_X7_linksOf
set_option maxRecDepth 20000 in
theorem ggX7_bestModel_X7_markOf : GoodIn wsX7_bestModel wsX7_markOf := goodIn_r _ [11, 2, 3, 4, 5, 6, 7, 12, 13, 14, 15, 16, 17, 18, 19, 20, 21, 22, 23, 24, 25, 26, 27, 28, 29, 30, 31, 32, 33, 34, 35, 36, 37, 38, 39, 40, 41, 42, 43, 44, 45, 46, 47, 48, 49, 50, 51, 52, 53, 54, 55, 56, 57, 58, 59, 60, 61, 62] (by decide +kernel) (by decide +kernel)
set_option maxRecDepth 20000 in
theorem gX7_bestModel_X7_markOf : GoodIn wsX7_bestModel (wsV RX7 101 RX7 yX7_markOf wsX7_markOf) := goodIn_app (goodIn_of _ (by decide +kernel)) ggX7_bestModel_X7_markOf
theorem dX7_bestModel_0 : decode cX7_bestModel 0 = .ok (.aload_n 0, 1) := by decide +kernel
theorem dX7_bestModel_1 : decode cX7_bestModel 1 = .ok (.iconst 0, 1) := by decide +kernel
theorem dX7_bestModel_2 : decode cX7_bestModel 2 = .ok (.putfield 38, 3) := by decide +kernel
theorem dX7_bestModel_5 : decode cX7_bestModel 5 = .ok (.iconst (-1), 1) := by decide +kernel
theorem dX7_bestModel_6 : decode cX7_bestModel 6 = .ok (.istore_n 1, 1) := by decide +kernel
theorem dX7_bestModel_7 : decode cX7_bestModel 7 = .ok (.iconst 1, 1) := by decide +kernel
theorem dX7_bestModel_8 : decode cX7_bestModel 8 = .ok (.istore_n 2, 1) := by decide +kernel
theorem dX7_bestModel_9 : decode cX7_bestModel 9 = .ok (.iload_n 2, 1) := by decide +kernel
theorem dX7_bestModel_10 : decode cX7_bestModel 10 = .ok (.iconst 4, 1) := by decide +kernel
theorem dX7_bestModel_11 : decode cX7_bestModel 11 = .ok (.if_icmp .ge 51, 3) := by decide +kernel
theorem dX7_bestModel_14 : decode cX7_bestModel 14 = .ok (.aload_n 0, 1) := by decide +kernel
theorem dX7_bestModel_15 : decode cX7_bestModel 15 = .ok (.iload_n 2, 1) := by decide +kernel
theorem dX7_bestModel_16 : decode cX7_bestModel 16 = .ok (.invokevirtual 72, 3) := by decide +kernel
theorem dX7_bestModel_19 : decode cX7_bestModel 19 = .ok (.ifCond .le 25, 3) := by decide +kernel
theorem dX7_bestModel_22 : decode cX7_bestModel 22 = .ok (.iload_n 1, 1) := by decide +kernel
theorem dX7_bestModel_23 : decode cX7_bestModel 23 = .ok (.iconst (-1), 1) := by decide +kernel
theorem dX7_bestModel_24 : decode cX7_bestModel 24 = .ok (.if_icmp .eq 16, 3) := by decide +kernel
theorem dX7_bestModel_27 : decode cX7_bestModel 27 = .ok (.aload_n 0, 1) := by decide +kernel
theorem dX7_bestModel_28 : decode cX7_bestModel 28 = .ok (.iload_n 2, 1) := by decide +kernel
theorem dX7_bestModel_29 : decode cX7_bestModel 29 = .ok (.invokevirtual 101, 3) := by decide +kernel
theorem dX7_bestModel_32 : decode cX7_bestModel 32 = .ok (.aload_n 0, 1) := by decide +kernel
theorem dX7_bestModel_33 : decode cX7_bestModel 33 = .ok (.iload_n 1, 1) := by decide +kernel
theorem dX7_bestModel_34 : decode cX7_bestModel 34 = .ok (.invokevirtual 101, 3) := by decide +kernel
theorem dX7_bestModel_37 : decode cX7_bestModel 37 = .ok (.if_icmp .le 7, 3) := by decide +kernel
theorem dX7_bestModel_40 : decode cX7_bestModel 40 = .ok (.iconst 1, 1) := by decide +kernel
theorem dX7_bestModel_41 : decode cX7_bestModel 41 = .ok (.goto 4, 3) := by decide +kernel
theorem dX7_bestModel_44 : decode cX7_bestModel 44 = .ok (.iconst 0, 1) := by decide +kernel
theorem dX7_bestModel_45 : decode cX7_bestModel 45 = .ok (.istore_n 3, 1) := by decide +kernel
theorem dX7_bestModel_46 : decode cX7_bestModel 46 = .ok (.iload_n 3, 1) := by decide +kernel
theorem dX7_bestModel_47 : decode cX7_bestModel 47 = .ok (.ifCond .eq 7, 3) := by decide +kernel
theorem dX7_bestModel_50 : decode cX7_bestModel 50 = .ok (.iload_n 2, 1) := by decide +kernel
theorem dX7_bestModel_51 : decode cX7_bestModel 51 = .ok (.goto 4, 3) := by decide +kernel
theorem dX7_bestModel_54 : decode cX7_bestModel 54 = .ok (.iload_n 1, 1) := by decide +kernel
theorem dX7_bestModel_55 : decode cX7_bestModel 55 = .ok (.istore_n 1, 1) := by decide +kernel
theorem dX7_bestModel_56 : decode cX7_bestModel 56 = .ok (.iinc 2 1, 3) := by decide +kernel
theorem dX7_bestModel_59 : decode cX7_bestModel 59 = .ok (.goto (-50), 3) := by decide +kernel
theorem dX7_bestModel_62 : decode cX7_bestModel 62 = .ok (.iload_n 1, 1) := by decide +kernel
theorem dX7_bestModel_63 : decode cX7_bestModel 63 = .ok (.ireturn, 1) := by decide +kernel
set_option maxRecDepth 20000 in
theorem ggX7_matchOf_X7_isModel : GoodIn wsX7_matchOf wsX7_isModel := goodIn_r _ [6] (by decide +kernel) (by decide +kernel)
set_option maxRecDepth 20000 in
theorem gX7_matchOf_X7_isModel : GoodIn wsX7_matchOf (va_wsS RX7 95 yX7_isModel wsX7_isModel) := goodIn_app (goodIn_of _ (by decide +kernel)) ggX7_matchOf_X7_isModel
set_option maxRecDepth 20000 in
theorem ggX7_matchOf_X7_isIdea : GoodIn wsX7_matchOf wsX7_isIdea := goodIn_r _ [10, 2, 11, 12, 5, 13, 57, 58, 59, 60, 61, 62, 63, 64, 65, 66, 67, 68] (by decide +kernel) (by decide +kernel)
set_option maxRecDepth 20000 in
theorem gX7_matchOf_X7_isIdea : GoodIn wsX7_matchOf (wsV RX7 57 RX7 yX7_isIdea wsX7_isIdea) := goodIn_app (goodIn_of _ (by decide +kernel)) ggX7_matchOf_X7_isIdea
set_option maxRecDepth 20000 in
theorem ggX7_matchOf_X7_asks : GoodIn wsX7_matchOf wsX7_asks := goodIn_r _ [17, 18, 57, 58, 59, 60, 61, 62, 63, 64, 65, 66, 67, 68] (by decide +kernel) (by decide +kernel)
set_option maxRecDepth 20000 in
theorem gX7_matchOf_X7_asks : GoodIn wsX7_matchOf (wsV RX7 49 RX7 yX7_asks wsX7_asks) := goodIn_app (goodIn_of _ (by decide +kernel)) ggX7_matchOf_X7_asks
set_option maxRecDepth 20000 in
theorem ggX7_matchOf_X7_most : GoodIn wsX7_matchOf wsX7_most := goodIn_r _ [22, 1, 2, 23, 24, 25, 26, 5, 27, 28, 29, 30, 31, 32, 33, 34, 35, 36, 37, 38, 39, 40, 41, 42, 43, 44, 45, 46, 47, 48, 49, 50, 51, 52, 53, 54, 55, 56, 57, 58, 59, 60, 61, 62, 63, 64, 65, 66, 67, 68] (by decide +kernel) (by decide +kernel)
set_option maxRecDepth 20000 in
theorem gX7_matchOf_X7_most : GoodIn wsX7_matchOf (wsV RX7 98 RX7 yX7_most wsX7_most) := goodIn_app (goodIn_of _ (by decide +kernel)) ggX7_matchOf_X7_most
theorem dX7_matchOf_0 : decode cX7_matchOf 0 = .ok (.aload_n 0, 1) := by decide +kernel
theorem dX7_matchOf_1 : decode cX7_matchOf 1 = .ok (.iload_n 1, 1) := by decide +kernel
theorem dX7_matchOf_2 : decode cX7_matchOf 2 = .ok (.invokestatic 95, 3) := by decide +kernel
theorem dX7_matchOf_5 : decode cX7_matchOf 5 = .ok (.ifCond .eq 16, 3) := by decide +kernel
theorem dX7_matchOf_8 : decode cX7_matchOf 8 = .ok (.aload_n 0, 1) := by decide +kernel
theorem dX7_matchOf_9 : decode cX7_matchOf 9 = .ok (.iconst 0, 1) := by decide +kernel
theorem dX7_matchOf_10 : decode cX7_matchOf 10 = .ok (.iload_n 2, 1) := by decide +kernel
theorem dX7_matchOf_11 : decode cX7_matchOf 11 = .ok (.invokevirtual 57, 3) := by decide +kernel
theorem dX7_matchOf_14 : decode cX7_matchOf 14 = .ok (.ifCond .eq 7, 3) := by decide +kernel
theorem dX7_matchOf_17 : decode cX7_matchOf 17 = .ok (.iconst 1, 1) := by decide +kernel
theorem dX7_matchOf_18 : decode cX7_matchOf 18 = .ok (.goto 4, 3) := by decide +kernel
theorem dX7_matchOf_21 : decode cX7_matchOf 21 = .ok (.iconst 0, 1) := by decide +kernel
theorem dX7_matchOf_22 : decode cX7_matchOf 22 = .ok (.invokevirtual 49, 3) := by decide +kernel
theorem dX7_matchOf_25 : decode cX7_matchOf 25 = .ok (.ifCond .ne 5, 3) := by decide +kernel
theorem dX7_matchOf_28 : decode cX7_matchOf 28 = .ok (.iconst 0, 1) := by decide +kernel
theorem dX7_matchOf_29 : decode cX7_matchOf 29 = .ok (.ireturn, 1) := by decide +kernel
theorem dX7_matchOf_30 : decode cX7_matchOf 30 = .ok (.aload_n 0, 1) := by decide +kernel
theorem dX7_matchOf_31 : decode cX7_matchOf 31 = .ok (.iload_n 1, 1) := by decide +kernel
theorem dX7_matchOf_32 : decode cX7_matchOf 32 = .ok (.invokevirtual 98, 3) := by decide +kernel
theorem dX7_matchOf_35 : decode cX7_matchOf 35 = .ok (.pop, 1) := by decide +kernel
theorem dX7_matchOf_36 : decode cX7_matchOf 36 = .ok (.aload_n 0, 1) := by decide +kernel
theorem dX7_matchOf_37 : decode cX7_matchOf 37 = .ok (.getfield 29, 3) := by decide +kernel
theorem dX7_matchOf_40 : decode cX7_matchOf 40 = .ok (.iload_n 2, 1) := by decide +kernel
theorem dX7_matchOf_41 : decode cX7_matchOf 41 = .ok (.iaload, 1) := by decide +kernel
theorem dX7_matchOf_42 : decode cX7_matchOf 42 = .ok (.aload_n 0, 1) := by decide +kernel
theorem dX7_matchOf_43 : decode cX7_matchOf 43 = .ok (.getfield 7, 3) := by decide +kernel
theorem dX7_matchOf_46 : decode cX7_matchOf 46 = .ok (.iload_n 1, 1) := by decide +kernel
theorem dX7_matchOf_47 : decode cX7_matchOf 47 = .ok (.iaload, 1) := by decide +kernel
theorem dX7_matchOf_48 : decode cX7_matchOf 48 = .ok (.if_icmp .ne 7, 3) := by decide +kernel
theorem dX7_matchOf_51 : decode cX7_matchOf 51 = .ok (.iconst (-1), 1) := by decide +kernel
theorem dX7_matchOf_52 : decode cX7_matchOf 52 = .ok (.goto 9, 3) := by decide +kernel
theorem dX7_matchOf_55 : decode cX7_matchOf 55 = .ok (.aload_n 0, 1) := by decide +kernel
theorem dX7_matchOf_56 : decode cX7_matchOf 56 = .ok (.getfield 29, 3) := by decide +kernel
theorem dX7_matchOf_59 : decode cX7_matchOf 59 = .ok (.iload_n 2, 1) := by decide +kernel
theorem dX7_matchOf_60 : decode cX7_matchOf 60 = .ok (.iaload, 1) := by decide +kernel
theorem dX7_matchOf_61 : decode cX7_matchOf 61 = .ok (.ireturn, 1) := by decide +kernel
set_option maxRecDepth 20000 in
theorem ggX7_verdict_X7_isModel : GoodIn wsX7_verdict wsX7_isModel := goodIn_r _ [5] (by decide +kernel) (by decide +kernel)
set_option maxRecDepth 20000 in
theorem gX7_verdict_X7_isModel : GoodIn wsX7_verdict (va_wsS RX7 95 yX7_isModel wsX7_isModel) := goodIn_app (goodIn_of _ (by decide +kernel)) ggX7_verdict_X7_isModel
set_option maxRecDepth 20000 in
theorem ggX7_verdict_X7_asks : GoodIn wsX7_verdict wsX7_asks := goodIn_r _ [9, 10, 68, 69, 70, 71, 72, 73, 74, 75, 76, 77, 78, 79] (by decide +kernel) (by decide +kernel)
set_option maxRecDepth 20000 in
theorem gX7_verdict_X7_asks : GoodIn wsX7_verdict (wsV RX7 49 RX7 yX7_asks wsX7_asks) := goodIn_app (goodIn_of _ (by decide +kernel)) ggX7_verdict_X7_asks
set_option maxRecDepth 20000 in
theorem ggX7_verdict_X7_asksLink : GoodIn wsX7_verdict wsX7_asksLink := goodIn_r _ [14, 10, 15, 16, 17, 4, 18, 19, 20, 21, 22, 23, 24, 25, 68, 69, 70, 71, 72, 73, 74, 75, 76, 77, 78, 79] (by decide +kernel) (by decide +kernel)
set_option maxRecDepth 20000 in
theorem gX7_verdict_X7_asksLink : GoodIn wsX7_verdict (wsV RX7 64 RX7 yX7_asksLink wsX7_asksLink) := goodIn_app (goodIn_of _ (by decide +kernel)) ggX7_verdict_X7_asksLink
set_option maxRecDepth 20000 in
theorem ggX7_verdict_X7_at : GoodIn wsX7_verdict wsX7_at := goodIn_r _ [28] (by decide +kernel) (by decide +kernel)
set_option maxRecDepth 20000 in
theorem gX7_verdict_X7_at : GoodIn wsX7_verdict (va_wsS RX7 68 yX7_at wsX7_at) := goodIn_app (goodIn_of _ (by decide +kernel)) ggX7_verdict_X7_at
set_option maxRecDepth 20000 in
theorem ggX7_verdict_X7_fails : GoodIn wsX7_verdict wsX7_fails := goodIn_r _ [32, 10, 68, 69, 70, 71, 72, 73, 74, 75, 76, 77, 78, 79] (by decide +kernel) (by decide +kernel)
set_option maxRecDepth 20000 in
theorem gX7_verdict_X7_fails : GoodIn wsX7_verdict (wsV RX7 53 RX7 yX7_fails wsX7_fails) := goodIn_app (goodIn_of _ (by decide +kernel)) ggX7_verdict_X7_fails
set_option maxRecDepth 20000 in
theorem ggX7_verdict_X7_most : GoodIn wsX7_verdict wsX7_most := goodIn_r _ [36, 37, 19, 38, 39, 40, 41, 4, 42, 43, 1, 44, 45, 46, 47, 48, 26, 27, 28, 49, 50, 51, 52, 53, 54, 55, 56, 57, 58, 59, 60, 61, 62, 63, 64, 65, 66, 67, 68, 69, 70, 71, 72, 73, 74, 75, 76, 77, 78, 79] (by decide +kernel) (by decide +kernel)
set_option maxRecDepth 20000 in
theorem gX7_verdict_X7_most : GoodIn wsX7_verdict (wsV RX7 98 RX7 yX7_most wsX7_most) := goodIn_app (goodIn_of _ (by decide +kernel)) ggX7_verdict_X7_most
set_option maxRecDepth 20000 in
theorem ggX7_verdict_X7_verdictOf : GoodIn wsX7_verdict wsX7_verdictOf := goodIn_r _ [61, 53, 1, 43, 26, 27, 4, 28, 68, 69, 70, 71, 72, 73, 74, 75, 76, 77, 78, 79] (by decide +kernel) (by decide +kernel)
set_option maxRecDepth 20000 in
theorem gX7_verdict_X7_verdictOf : GoodIn wsX7_verdict (wsV RX7 82 RX7 yX7_verdictOf wsX7_verdictOf) := goodIn_app (goodIn_of _ (by decide +kernel)) ggX7_verdict_X7_verdictOf
theorem dX7_verdict_0 : decode cX7_verdict 0 = .ok (.aload_n 0, 1) := by decide +kernel
theorem dX7_verdict_1 : decode cX7_verdict 1 = .ok (.iload_n 1, 1) := by decide +kernel
theorem dX7_verdict_2 : decode cX7_verdict 2 = .ok (.invokestatic 95, 3) := by decide +kernel
theorem dX7_verdict_5 : decode cX7_verdict 5 = .ok (.invokevirtual 49, 3) := by decide +kernel
theorem dX7_verdict_8 : decode cX7_verdict 8 = .ok (.ifCond .eq 15, 3) := by decide +kernel
theorem dX7_verdict_11 : decode cX7_verdict 11 = .ok (.aload_n 0, 1) := by decide +kernel
theorem dX7_verdict_12 : decode cX7_verdict 12 = .ok (.iload_n 1, 1) := by decide +kernel
theorem dX7_verdict_13 : decode cX7_verdict 13 = .ok (.iload_n 2, 1) := by decide +kernel
theorem dX7_verdict_14 : decode cX7_verdict 14 = .ok (.iload_n 3, 1) := by decide +kernel
theorem dX7_verdict_15 : decode cX7_verdict 15 = .ok (.iload 4, 2) := by decide +kernel
theorem dX7_verdict_17 : decode cX7_verdict 17 = .ok (.invokevirtual 64, 3) := by decide +kernel
theorem dX7_verdict_20 : decode cX7_verdict 20 = .ok (.ifCond .ne 5, 3) := by decide +kernel
theorem dX7_verdict_23 : decode cX7_verdict 23 = .ok (.iconst 0, 1) := by decide +kernel
theorem dX7_verdict_24 : decode cX7_verdict 24 = .ok (.ireturn, 1) := by decide +kernel
theorem dX7_verdict_25 : decode cX7_verdict 25 = .ok (.aload_n 0, 1) := by decide +kernel
theorem dX7_verdict_26 : decode cX7_verdict 26 = .ok (.getfield 16, 3) := by decide +kernel
theorem dX7_verdict_29 : decode cX7_verdict 29 = .ok (.iload_n 1, 1) := by decide +kernel
theorem dX7_verdict_30 : decode cX7_verdict 30 = .ok (.iload_n 2, 1) := by decide +kernel
theorem dX7_verdict_31 : decode cX7_verdict 31 = .ok (.iload_n 3, 1) := by decide +kernel
theorem dX7_verdict_32 : decode cX7_verdict 32 = .ok (.iload 4, 2) := by decide +kernel
theorem dX7_verdict_34 : decode cX7_verdict 34 = .ok (.invokestatic 68, 3) := by decide +kernel
theorem dX7_verdict_37 : decode cX7_verdict 37 = .ok (.baload, 1) := by decide +kernel
theorem dX7_verdict_38 : decode cX7_verdict 38 = .ok (.ifCond .ne 9, 3) := by decide +kernel
theorem dX7_verdict_41 : decode cX7_verdict 41 = .ok (.aload_n 0, 1) := by decide +kernel
theorem dX7_verdict_42 : decode cX7_verdict 42 = .ok (.iconst 3, 1) := by decide +kernel
theorem dX7_verdict_43 : decode cX7_verdict 43 = .ok (.invokevirtual 53, 3) := by decide +kernel
theorem dX7_verdict_46 : decode cX7_verdict 46 = .ok (.ireturn, 1) := by decide +kernel
theorem dX7_verdict_47 : decode cX7_verdict 47 = .ok (.aload_n 0, 1) := by decide +kernel
theorem dX7_verdict_48 : decode cX7_verdict 48 = .ok (.iload_n 1, 1) := by decide +kernel
theorem dX7_verdict_49 : decode cX7_verdict 49 = .ok (.invokevirtual 98, 3) := by decide +kernel
theorem dX7_verdict_52 : decode cX7_verdict 52 = .ok (.pop, 1) := by decide +kernel
theorem dX7_verdict_53 : decode cX7_verdict 53 = .ok (.aload_n 0, 1) := by decide +kernel
theorem dX7_verdict_54 : decode cX7_verdict 54 = .ok (.iload_n 2, 1) := by decide +kernel
theorem dX7_verdict_55 : decode cX7_verdict 55 = .ok (.iload_n 3, 1) := by decide +kernel
theorem dX7_verdict_56 : decode cX7_verdict 56 = .ok (.iload 4, 2) := by decide +kernel
theorem dX7_verdict_58 : decode cX7_verdict 58 = .ok (.invokevirtual 82, 3) := by decide +kernel
theorem dX7_verdict_61 : decode cX7_verdict 61 = .ok (.ireturn, 1) := by decide +kernel
set_option maxRecDepth 20000 in
theorem ggX7_lacking_X7_isModel : GoodIn wsX7_lacking wsX7_isModel := goodIn_r _ [6] (by decide +kernel) (by decide +kernel)
set_option maxRecDepth 20000 in
theorem gX7_lacking_X7_isModel : GoodIn wsX7_lacking (va_wsS RX7 95 yX7_isModel wsX7_isModel) := goodIn_app (goodIn_of _ (by decide +kernel)) ggX7_lacking_X7_isModel
set_option maxRecDepth 20000 in
theorem ggX7_lacking_X7_asks : GoodIn wsX7_lacking wsX7_asks := goodIn_r _ [10, 11, 50, 51, 52, 53, 54, 55, 56, 57, 58, 59, 60, 61] (by decide +kernel) (by decide +kernel)
set_option maxRecDepth 20000 in
theorem gX7_lacking_X7_asks : GoodIn wsX7_lacking (wsV RX7 49 RX7 yX7_asks wsX7_asks) := goodIn_app (goodIn_of _ (by decide +kernel)) ggX7_lacking_X7_asks
set_option maxRecDepth 20000 in
theorem ggX7_lacking_X7_most : GoodIn wsX7_lacking wsX7_most := goodIn_r _ [15, 16, 1, 17, 18, 19, 20, 5, 21, 22, 23, 24, 25, 26, 27, 28, 29, 30, 31, 32, 33, 34, 35, 2, 36, 37, 38, 39, 40, 41, 42, 43, 44, 45, 46, 47, 48, 49, 50, 51, 52, 53, 54, 55, 56, 57, 58, 59, 60, 61] (by decide +kernel) (by decide +kernel)
set_option maxRecDepth 20000 in
theorem gX7_lacking_X7_most : GoodIn wsX7_lacking (wsV RX7 98 RX7 yX7_most wsX7_most) := goodIn_app (goodIn_of _ (by decide +kernel)) ggX7_lacking_X7_most
theorem dX7_lacking_0 : decode cX7_lacking 0 = .ok (.aload_n 0, 1) := by decide +kernel
theorem dX7_lacking_1 : decode cX7_lacking 1 = .ok (.iload_n 1, 1) := by decide +kernel
theorem dX7_lacking_2 : decode cX7_lacking 2 = .ok (.invokestatic 95, 3) := by decide +kernel
theorem dX7_lacking_5 : decode cX7_lacking 5 = .ok (.invokevirtual 49, 3) := by decide +kernel
theorem dX7_lacking_8 : decode cX7_lacking 8 = .ok (.ifCond .ne 5, 3) := by decide +kernel
theorem dX7_lacking_11 : decode cX7_lacking 11 = .ok (.iconst 0, 1) := by decide +kernel
theorem dX7_lacking_12 : decode cX7_lacking 12 = .ok (.ireturn, 1) := by decide +kernel
theorem dX7_lacking_13 : decode cX7_lacking 13 = .ok (.aload_n 0, 1) := by decide +kernel
theorem dX7_lacking_14 : decode cX7_lacking 14 = .ok (.iload_n 1, 1) := by decide +kernel
theorem dX7_lacking_15 : decode cX7_lacking 15 = .ok (.invokevirtual 98, 3) := by decide +kernel
theorem dX7_lacking_18 : decode cX7_lacking 18 = .ok (.pop, 1) := by decide +kernel
theorem dX7_lacking_19 : decode cX7_lacking 19 = .ok (.iconst 0, 1) := by decide +kernel
theorem dX7_lacking_20 : decode cX7_lacking 20 = .ok (.istore_n 2, 1) := by decide +kernel
theorem dX7_lacking_21 : decode cX7_lacking 21 = .ok (.iconst 0, 1) := by decide +kernel
theorem dX7_lacking_22 : decode cX7_lacking 22 = .ok (.istore_n 3, 1) := by decide +kernel
theorem dX7_lacking_23 : decode cX7_lacking 23 = .ok (.iload_n 3, 1) := by decide +kernel
theorem dX7_lacking_24 : decode cX7_lacking 24 = .ok (.aload_n 0, 1) := by decide +kernel
theorem dX7_lacking_25 : decode cX7_lacking 25 = .ok (.getfield 7, 3) := by decide +kernel
theorem dX7_lacking_28 : decode cX7_lacking 28 = .ok (.iload_n 1, 1) := by decide +kernel
theorem dX7_lacking_29 : decode cX7_lacking 29 = .ok (.iaload, 1) := by decide +kernel
theorem dX7_lacking_30 : decode cX7_lacking 30 = .ok (.if_icmp .ge 27, 3) := by decide +kernel
theorem dX7_lacking_33 : decode cX7_lacking 33 = .ok (.iload_n 2, 1) := by decide +kernel
theorem dX7_lacking_34 : decode cX7_lacking 34 = .ok (.aload_n 0, 1) := by decide +kernel
theorem dX7_lacking_35 : decode cX7_lacking 35 = .ok (.getfield 35, 3) := by decide +kernel
theorem dX7_lacking_38 : decode cX7_lacking 38 = .ok (.iload_n 3, 1) := by decide +kernel
theorem dX7_lacking_39 : decode cX7_lacking 39 = .ok (.iaload, 1) := by decide +kernel
theorem dX7_lacking_40 : decode cX7_lacking 40 = .ok (.iconst (-1), 1) := by decide +kernel
theorem dX7_lacking_41 : decode cX7_lacking 41 = .ok (.if_icmp .ne 7, 3) := by decide +kernel
theorem dX7_lacking_44 : decode cX7_lacking 44 = .ok (.iconst 1, 1) := by decide +kernel
theorem dX7_lacking_45 : decode cX7_lacking 45 = .ok (.goto 4, 3) := by decide +kernel
theorem dX7_lacking_48 : decode cX7_lacking 48 = .ok (.iconst 0, 1) := by decide +kernel
theorem dX7_lacking_49 : decode cX7_lacking 49 = .ok (.iadd, 1) := by decide +kernel
theorem dX7_lacking_50 : decode cX7_lacking 50 = .ok (.istore_n 2, 1) := by decide +kernel
theorem dX7_lacking_51 : decode cX7_lacking 51 = .ok (.iinc 3 1, 3) := by decide +kernel
theorem dX7_lacking_54 : decode cX7_lacking 54 = .ok (.goto (-31), 3) := by decide +kernel
theorem dX7_lacking_57 : decode cX7_lacking 57 = .ok (.iload_n 2, 1) := by decide +kernel
theorem dX7_lacking_58 : decode cX7_lacking 58 = .ok (.ireturn, 1) := by decide +kernel
set_option maxRecDepth 20000 in
theorem ggX7_hints_X7_most : GoodIn wsX7_hints wsX7_most := goodIn_r _ [9, 10, 3, 11, 12, 13, 14, 8, 15, 16, 4, 17, 18, 19, 20, 21, 22, 23, 24, 25, 26, 27, 28, 29, 30, 31, 32, 33, 34, 35, 36, 37, 38, 39, 40, 41, 42, 43, 44, 45, 46, 47, 48, 49, 50, 51, 52, 53, 54, 55] (by decide +kernel) (by decide +kernel)
set_option maxRecDepth 20000 in
theorem gX7_hints_X7_most : GoodIn wsX7_hints (wsV RX7 98 RX7 yX7_most wsX7_most) := goodIn_app (goodIn_of _ (by decide +kernel)) ggX7_hints_X7_most
theorem dX7_hints_0 : decode cX7_hints 0 = .ok (.aload_n 0, 1) := by decide +kernel
theorem dX7_hints_1 : decode cX7_hints 1 = .ok (.iload_n 1, 1) := by decide +kernel
theorem dX7_hints_2 : decode cX7_hints 2 = .ok (.invokevirtual 98, 3) := by decide +kernel
theorem dX7_hints_5 : decode cX7_hints 5 = .ok (.istore_n 2, 1) := by decide +kernel
theorem dX7_hints_6 : decode cX7_hints 6 = .ok (.aload_n 0, 1) := by decide +kernel
theorem dX7_hints_7 : decode cX7_hints 7 = .ok (.iconst (-1), 1) := by decide +kernel
theorem dX7_hints_8 : decode cX7_hints 8 = .ok (.putfield 104, 3) := by decide +kernel
theorem dX7_hints_11 : decode cX7_hints 11 = .ok (.aload_n 0, 1) := by decide +kernel
theorem dX7_hints_12 : decode cX7_hints 12 = .ok (.iconst 0, 1) := by decide +kernel
theorem dX7_hints_13 : decode cX7_hints 13 = .ok (.putfield 107, 3) := by decide +kernel
theorem dX7_hints_16 : decode cX7_hints 16 = .ok (.iconst 0, 1) := by decide +kernel
theorem dX7_hints_17 : decode cX7_hints 17 = .ok (.istore_n 3, 1) := by decide +kernel
theorem dX7_hints_18 : decode cX7_hints 18 = .ok (.iload_n 3, 1) := by decide +kernel
theorem dX7_hints_19 : decode cX7_hints 19 = .ok (.bipush 100, 2) := by decide +kernel
theorem dX7_hints_21 : decode cX7_hints 21 = .ok (.if_icmp .ge 140, 3) := by decide +kernel
theorem dX7_hints_24 : decode cX7_hints 24 = .ok (.iload_n 3, 1) := by decide +kernel
theorem dX7_hints_25 : decode cX7_hints 25 = .ok (.bipush 20, 2) := by decide +kernel
theorem dX7_hints_27 : decode cX7_hints 27 = .ok (.idiv, 1) := by decide +kernel
theorem dX7_hints_28 : decode cX7_hints 28 = .ok (.istore 4, 2) := by decide +kernel
theorem dX7_hints_30 : decode cX7_hints 30 = .ok (.iload_n 3, 1) := by decide +kernel
theorem dX7_hints_31 : decode cX7_hints 31 = .ok (.iconst 4, 1) := by decide +kernel
theorem dX7_hints_32 : decode cX7_hints 32 = .ok (.idiv, 1) := by decide +kernel
theorem dX7_hints_33 : decode cX7_hints 33 = .ok (.iconst 5, 1) := by decide +kernel
theorem dX7_hints_34 : decode cX7_hints 34 = .ok (.irem, 1) := by decide +kernel
theorem dX7_hints_35 : decode cX7_hints 35 = .ok (.istore 5, 2) := by decide +kernel
theorem dX7_hints_37 : decode cX7_hints 37 = .ok (.iload 4, 2) := by decide +kernel
theorem dX7_hints_39 : decode cX7_hints 39 = .ok (.iload 5, 2) := by decide +kernel
theorem dX7_hints_41 : decode cX7_hints 41 = .ok (.if_icmp .eq 114, 3) := by decide +kernel
theorem dX7_hints_44 : decode cX7_hints 44 = .ok (.iload 4, 2) := by decide +kernel
theorem dX7_hints_46 : decode cX7_hints 46 = .ok (.aload_n 0, 1) := by decide +kernel
theorem dX7_hints_47 : decode cX7_hints 47 = .ok (.getfield 7, 3) := by decide +kernel
theorem dX7_hints_50 : decode cX7_hints 50 = .ok (.iconst 0, 1) := by decide +kernel
theorem dX7_hints_51 : decode cX7_hints 51 = .ok (.iaload, 1) := by decide +kernel
theorem dX7_hints_52 : decode cX7_hints 52 = .ok (.if_icmp .ge 103, 3) := by decide +kernel
theorem dX7_hints_55 : decode cX7_hints 55 = .ok (.iload 5, 2) := by decide +kernel
theorem dX7_hints_57 : decode cX7_hints 57 = .ok (.aload_n 0, 1) := by decide +kernel
theorem dX7_hints_58 : decode cX7_hints 58 = .ok (.getfield 7, 3) := by decide +kernel
theorem dX7_hints_61 : decode cX7_hints 61 = .ok (.iconst 0, 1) := by decide +kernel
theorem dX7_hints_62 : decode cX7_hints 62 = .ok (.iaload, 1) := by decide +kernel
theorem dX7_hints_63 : decode cX7_hints 63 = .ok (.if_icmp .ge 92, 3) := by decide +kernel
theorem dX7_hints_66 : decode cX7_hints 66 = .ok (.aload_n 0, 1) := by decide +kernel
theorem dX7_hints_67 : decode cX7_hints 67 = .ok (.getfield 16, 3) := by decide +kernel
theorem dX7_hints_70 : decode cX7_hints 70 = .ok (.iload_n 3, 1) := by decide +kernel
theorem dX7_hints_71 : decode cX7_hints 71 = .ok (.baload, 1) := by decide +kernel
theorem dX7_hints_72 : decode cX7_hints 72 = .ok (.ifCond .ne 83, 3) := by decide +kernel
theorem dX7_hints_75 : decode cX7_hints 75 = .ok (.aload_n 0, 1) := by decide +kernel
theorem dX7_hints_76 : decode cX7_hints 76 = .ok (.getfield 16, 3) := by decide +kernel
theorem dX7_hints_79 : decode cX7_hints 79 = .ok (.iload_n 3, 1) := by decide +kernel
theorem dX7_hints_80 : decode cX7_hints 80 = .ok (.iconst 1, 1) := by decide +kernel
theorem dX7_hints_81 : decode cX7_hints 81 = .ok (.bastore, 1) := by decide +kernel
theorem dX7_hints_82 : decode cX7_hints 82 = .ok (.aload_n 0, 1) := by decide +kernel
theorem dX7_hints_83 : decode cX7_hints 83 = .ok (.iload_n 1, 1) := by decide +kernel
theorem dX7_hints_84 : decode cX7_hints 84 = .ok (.invokevirtual 98, 3) := by decide +kernel
theorem dX7_hints_87 : decode cX7_hints 87 = .ok (.iload_n 2, 1) := by decide +kernel
theorem dX7_hints_88 : decode cX7_hints 88 = .ok (.isub, 1) := by decide +kernel
theorem dX7_hints_89 : decode cX7_hints 89 = .ok (.istore 6, 2) := by decide +kernel
theorem dX7_hints_91 : decode cX7_hints 91 = .ok (.aload_n 0, 1) := by decide +kernel
theorem dX7_hints_92 : decode cX7_hints 92 = .ok (.getfield 16, 3) := by decide +kernel
theorem dX7_hints_95 : decode cX7_hints 95 = .ok (.iload_n 3, 1) := by decide +kernel
theorem dX7_hints_96 : decode cX7_hints 96 = .ok (.iconst 0, 1) := by decide +kernel
theorem dX7_hints_97 : decode cX7_hints 97 = .ok (.bastore, 1) := by decide +kernel
theorem dX7_hints_98 : decode cX7_hints 98 = .ok (.aload_n 0, 1) := by decide +kernel
theorem dX7_hints_99 : decode cX7_hints 99 = .ok (.iload 6, 2) := by decide +kernel
theorem dX7_hints_101 : decode cX7_hints 101 = .ok (.aload_n 0, 1) := by decide +kernel
theorem dX7_hints_102 : decode cX7_hints 102 = .ok (.getfield 107, 3) := by decide +kernel
theorem dX7_hints_105 : decode cX7_hints 105 = .ok (.if_icmp .le 21, 3) := by decide +kernel
theorem dX7_hints_108 : decode cX7_hints 108 = .ok (.bipush 100, 2) := by decide +kernel
theorem dX7_hints_110 : decode cX7_hints 110 = .ok (.iload 4, 2) := by decide +kernel
theorem dX7_hints_112 : decode cX7_hints 112 = .ok (.imul, 1) := by decide +kernel
theorem dX7_hints_113 : decode cX7_hints 113 = .ok (.bipush 10, 2) := by decide +kernel
theorem dX7_hints_115 : decode cX7_hints 115 = .ok (.iload 5, 2) := by decide +kernel
theorem dX7_hints_117 : decode cX7_hints 117 = .ok (.imul, 1) := by decide +kernel
theorem dX7_hints_118 : decode cX7_hints 118 = .ok (.iadd, 1) := by decide +kernel
theorem dX7_hints_119 : decode cX7_hints 119 = .ok (.iload_n 3, 1) := by decide +kernel
theorem dX7_hints_120 : decode cX7_hints 120 = .ok (.iconst 4, 1) := by decide +kernel
theorem dX7_hints_121 : decode cX7_hints 121 = .ok (.irem, 1) := by decide +kernel
theorem dX7_hints_122 : decode cX7_hints 122 = .ok (.iadd, 1) := by decide +kernel
theorem dX7_hints_123 : decode cX7_hints 123 = .ok (.goto 7, 3) := by decide +kernel
theorem dX7_hints_126 : decode cX7_hints 126 = .ok (.aload_n 0, 1) := by decide +kernel
theorem dX7_hints_127 : decode cX7_hints 127 = .ok (.getfield 104, 3) := by decide +kernel
theorem dX7_hints_130 : decode cX7_hints 130 = .ok (.putfield 104, 3) := by decide +kernel
theorem dX7_hints_133 : decode cX7_hints 133 = .ok (.aload_n 0, 1) := by decide +kernel
theorem dX7_hints_134 : decode cX7_hints 134 = .ok (.iload 6, 2) := by decide +kernel
theorem dX7_hints_136 : decode cX7_hints 136 = .ok (.aload_n 0, 1) := by decide +kernel
theorem dX7_hints_137 : decode cX7_hints 137 = .ok (.getfield 107, 3) := by decide +kernel
theorem dX7_hints_140 : decode cX7_hints 140 = .ok (.if_icmp .le 8, 3) := by decide +kernel
theorem dX7_hints_143 : decode cX7_hints 143 = .ok (.iload 6, 2) := by decide +kernel
theorem dX7_hints_145 : decode cX7_hints 145 = .ok (.goto 7, 3) := by decide +kernel
theorem dX7_hints_148 : decode cX7_hints 148 = .ok (.aload_n 0, 1) := by decide +kernel
theorem dX7_hints_149 : decode cX7_hints 149 = .ok (.getfield 107, 3) := by decide +kernel
theorem dX7_hints_152 : decode cX7_hints 152 = .ok (.putfield 107, 3) := by decide +kernel
theorem dX7_hints_155 : decode cX7_hints 155 = .ok (.iinc 3 1, 3) := by decide +kernel
theorem dX7_hints_158 : decode cX7_hints 158 = .ok (.goto (-140), 3) := by decide +kernel
theorem dX7_hints_161 : decode cX7_hints 161 = .ok (.return_, 1) := by decide +kernel
set_option maxRecDepth 20000 in
theorem ggX7_hint_X7_isModel : GoodIn wsX7_hint wsX7_isModel := goodIn_r _ [5] (by decide +kernel) (by decide +kernel)
set_option maxRecDepth 20000 in
theorem gX7_hint_X7_isModel : GoodIn wsX7_hint (va_wsS RX7 95 yX7_isModel wsX7_isModel) := goodIn_app (goodIn_of _ (by decide +kernel)) ggX7_hint_X7_isModel
set_option maxRecDepth 20000 in
theorem ggX7_hint_X7_asks : GoodIn wsX7_hint wsX7_asks := goodIn_r _ [9, 10, 56, 57, 58, 59, 60, 61, 62, 63, 64, 65, 66, 67] (by decide +kernel) (by decide +kernel)
set_option maxRecDepth 20000 in
theorem gX7_hint_X7_asks : GoodIn wsX7_hint (wsV RX7 49 RX7 yX7_asks wsX7_asks) := goodIn_app (goodIn_of _ (by decide +kernel)) ggX7_hint_X7_asks
set_option maxRecDepth 20000 in
theorem ggX7_hint_X7_hints : GoodIn wsX7_hint wsX7_hints := goodIn_r _ [14, 1, 15, 16, 17, 18, 19, 20, 4, 21, 22, 23, 24, 25, 26, 27, 28, 29, 30, 31, 32, 33, 34, 35, 36, 37, 38, 39, 40, 41, 42, 43, 44, 45, 46, 47, 48, 49, 50, 51, 52, 53, 54, 55, 56, 57, 58, 59, 60, 61, 62, 63, 64, 65, 66, 67] (by decide +kernel) (by decide +kernel)
set_option maxRecDepth 20000 in
theorem gX7_hint_X7_hints : GoodIn wsX7_hint (wsV RX7 110 RX7 yX7_hints wsX7_hints) := goodIn_app (goodIn_of _ (by decide +kernel)) ggX7_hint_X7_hints
theorem dX7_hint_0 : decode cX7_hint 0 = .ok (.aload_n 0, 1) := by decide +kernel
theorem dX7_hint_1 : decode cX7_hint 1 = .ok (.iload_n 1, 1) := by decide +kernel
theorem dX7_hint_2 : decode cX7_hint 2 = .ok (.invokestatic 95, 3) := by decide +kernel
theorem dX7_hint_5 : decode cX7_hint 5 = .ok (.invokevirtual 49, 3) := by decide +kernel
theorem dX7_hint_8 : decode cX7_hint 8 = .ok (.ifCond .ne 5, 3) := by decide +kernel
theorem dX7_hint_11 : decode cX7_hint 11 = .ok (.iconst 0, 1) := by decide +kernel
theorem dX7_hint_12 : decode cX7_hint 12 = .ok (.ireturn, 1) := by decide +kernel
theorem dX7_hint_13 : decode cX7_hint 13 = .ok (.aload_n 0, 1) := by decide +kernel
theorem dX7_hint_14 : decode cX7_hint 14 = .ok (.iload_n 1, 1) := by decide +kernel
theorem dX7_hint_15 : decode cX7_hint 15 = .ok (.invokevirtual 110, 3) := by decide +kernel
theorem dX7_hint_18 : decode cX7_hint 18 = .ok (.aload_n 0, 1) := by decide +kernel
theorem dX7_hint_19 : decode cX7_hint 19 = .ok (.getfield 104, 3) := by decide +kernel
theorem dX7_hint_22 : decode cX7_hint 22 = .ok (.ireturn, 1) := by decide +kernel
set_option maxRecDepth 20000 in
theorem ggX7_gain_X7_isModel : GoodIn wsX7_gain wsX7_isModel := goodIn_r _ [5] (by decide +kernel) (by decide +kernel)
set_option maxRecDepth 20000 in
theorem gX7_gain_X7_isModel : GoodIn wsX7_gain (va_wsS RX7 95 yX7_isModel wsX7_isModel) := goodIn_app (goodIn_of _ (by decide +kernel)) ggX7_gain_X7_isModel
set_option maxRecDepth 20000 in
theorem ggX7_gain_X7_asks : GoodIn wsX7_gain wsX7_asks := goodIn_r _ [9, 10, 56, 57, 58, 59, 60, 61, 62, 63, 64, 65, 66, 67] (by decide +kernel) (by decide +kernel)
set_option maxRecDepth 20000 in
theorem gX7_gain_X7_asks : GoodIn wsX7_gain (wsV RX7 49 RX7 yX7_asks wsX7_asks) := goodIn_app (goodIn_of _ (by decide +kernel)) ggX7_gain_X7_asks
set_option maxRecDepth 20000 in
theorem ggX7_gain_X7_hints : GoodIn wsX7_gain wsX7_hints := goodIn_r _ [14, 15, 1, 16, 17, 18, 19, 20, 4, 21, 22, 23, 24, 25, 26, 27, 28, 29, 30, 31, 32, 33, 34, 35, 36, 37, 38, 39, 40, 41, 42, 43, 44, 45, 46, 47, 48, 49, 50, 51, 52, 53, 54, 55, 56, 57, 58, 59, 60, 61, 62, 63, 64, 65, 66, 67] (by decide +kernel) (by decide +kernel)
set_option maxRecDepth 20000 in
theorem gX7_gain_X7_hints : GoodIn wsX7_gain (wsV RX7 110 RX7 yX7_hints wsX7_hints) := goodIn_app (goodIn_of _ (by decide +kernel)) ggX7_gain_X7_hints
theorem dX7_gain_0 : decode cX7_gain 0 = .ok (.aload_n 0, 1) := by decide +kernel
theorem dX7_gain_1 : decode cX7_gain 1 = .ok (.iload_n 1, 1) := by decide +kernel
theorem dX7_gain_2 : decode cX7_gain 2 = .ok (.invokestatic 95, 3) := by decide +kernel
theorem dX7_gain_5 : decode cX7_gain 5 = .ok (.invokevirtual 49, 3) := by decide +kernel
theorem dX7_gain_8 : decode cX7_gain 8 = .ok (.ifCond .ne 5, 3) := by decide +kernel
theorem dX7_gain_11 : decode cX7_gain 11 = .ok (.iconst 0, 1) := by decide +kernel
theorem dX7_gain_12 : decode cX7_gain 12 = .ok (.ireturn, 1) := by decide +kernel
theorem dX7_gain_13 : decode cX7_gain 13 = .ok (.aload_n 0, 1) := by decide +kernel
theorem dX7_gain_14 : decode cX7_gain 14 = .ok (.iload_n 1, 1) := by decide +kernel
theorem dX7_gain_15 : decode cX7_gain 15 = .ok (.invokevirtual 110, 3) := by decide +kernel
theorem dX7_gain_18 : decode cX7_gain 18 = .ok (.aload_n 0, 1) := by decide +kernel
theorem dX7_gain_19 : decode cX7_gain 19 = .ok (.getfield 107, 3) := by decide +kernel
theorem dX7_gain_22 : decode cX7_gain 22 = .ok (.ireturn, 1) := by decide +kernel
theorem dJ6_bitCount_0f7a4_0 : decode cJ6_bitCount_0f7a4 0 = .ok (.iload_n 0, 1) := by decide +kernel
theorem dJ6_bitCount_0f7a4_1 : decode cJ6_bitCount_0f7a4 1 = .ok (.iload_n 0, 1) := by decide +kernel
theorem dJ6_bitCount_0f7a4_2 : decode cJ6_bitCount_0f7a4 2 = .ok (.iconst 1, 1) := by decide +kernel
theorem dJ6_bitCount_0f7a4_3 : decode cJ6_bitCount_0f7a4 3 = .ok (.iushr, 1) := by decide +kernel
theorem dJ6_bitCount_0f7a4_4 : decode cJ6_bitCount_0f7a4 4 = .ok (.ldc_w 265, 3) := by decide +kernel
theorem dJ6_bitCount_0f7a4_7 : decode cJ6_bitCount_0f7a4 7 = .ok (.iand, 1) := by decide +kernel
theorem dJ6_bitCount_0f7a4_8 : decode cJ6_bitCount_0f7a4 8 = .ok (.isub, 1) := by decide +kernel
theorem dJ6_bitCount_0f7a4_9 : decode cJ6_bitCount_0f7a4 9 = .ok (.istore_n 0, 1) := by decide +kernel
theorem dJ6_bitCount_0f7a4_10 : decode cJ6_bitCount_0f7a4 10 = .ok (.iload_n 0, 1) := by decide +kernel
theorem dJ6_bitCount_0f7a4_11 : decode cJ6_bitCount_0f7a4 11 = .ok (.ldc_w 266, 3) := by decide +kernel
theorem dJ6_bitCount_0f7a4_14 : decode cJ6_bitCount_0f7a4 14 = .ok (.iand, 1) := by decide +kernel
theorem dJ6_bitCount_0f7a4_15 : decode cJ6_bitCount_0f7a4 15 = .ok (.iload_n 0, 1) := by decide +kernel
theorem dJ6_bitCount_0f7a4_16 : decode cJ6_bitCount_0f7a4 16 = .ok (.iconst 2, 1) := by decide +kernel
theorem dJ6_bitCount_0f7a4_17 : decode cJ6_bitCount_0f7a4 17 = .ok (.iushr, 1) := by decide +kernel
theorem dJ6_bitCount_0f7a4_18 : decode cJ6_bitCount_0f7a4 18 = .ok (.ldc_w 266, 3) := by decide +kernel
theorem dJ6_bitCount_0f7a4_21 : decode cJ6_bitCount_0f7a4 21 = .ok (.iand, 1) := by decide +kernel
theorem dJ6_bitCount_0f7a4_22 : decode cJ6_bitCount_0f7a4 22 = .ok (.iadd, 1) := by decide +kernel
theorem dJ6_bitCount_0f7a4_23 : decode cJ6_bitCount_0f7a4 23 = .ok (.istore_n 0, 1) := by decide +kernel
theorem dJ6_bitCount_0f7a4_24 : decode cJ6_bitCount_0f7a4 24 = .ok (.iload_n 0, 1) := by decide +kernel
theorem dJ6_bitCount_0f7a4_25 : decode cJ6_bitCount_0f7a4 25 = .ok (.iload_n 0, 1) := by decide +kernel
theorem dJ6_bitCount_0f7a4_26 : decode cJ6_bitCount_0f7a4 26 = .ok (.iconst 4, 1) := by decide +kernel
theorem dJ6_bitCount_0f7a4_27 : decode cJ6_bitCount_0f7a4 27 = .ok (.iushr, 1) := by decide +kernel
theorem dJ6_bitCount_0f7a4_28 : decode cJ6_bitCount_0f7a4 28 = .ok (.iadd, 1) := by decide +kernel
theorem dJ6_bitCount_0f7a4_29 : decode cJ6_bitCount_0f7a4 29 = .ok (.ldc_w 267, 3) := by decide +kernel
theorem dJ6_bitCount_0f7a4_32 : decode cJ6_bitCount_0f7a4 32 = .ok (.iand, 1) := by decide +kernel
theorem dJ6_bitCount_0f7a4_33 : decode cJ6_bitCount_0f7a4 33 = .ok (.istore_n 0, 1) := by decide +kernel
theorem dJ6_bitCount_0f7a4_34 : decode cJ6_bitCount_0f7a4 34 = .ok (.iload_n 0, 1) := by decide +kernel
theorem dJ6_bitCount_0f7a4_35 : decode cJ6_bitCount_0f7a4 35 = .ok (.iload_n 0, 1) := by decide +kernel
theorem dJ6_bitCount_0f7a4_36 : decode cJ6_bitCount_0f7a4 36 = .ok (.bipush 8, 2) := by decide +kernel
theorem dJ6_bitCount_0f7a4_38 : decode cJ6_bitCount_0f7a4 38 = .ok (.iushr, 1) := by decide +kernel
theorem dJ6_bitCount_0f7a4_39 : decode cJ6_bitCount_0f7a4 39 = .ok (.iadd, 1) := by decide +kernel
theorem dJ6_bitCount_0f7a4_40 : decode cJ6_bitCount_0f7a4 40 = .ok (.istore_n 0, 1) := by decide +kernel
theorem dJ6_bitCount_0f7a4_41 : decode cJ6_bitCount_0f7a4 41 = .ok (.iload_n 0, 1) := by decide +kernel
theorem dJ6_bitCount_0f7a4_42 : decode cJ6_bitCount_0f7a4 42 = .ok (.iload_n 0, 1) := by decide +kernel
theorem dJ6_bitCount_0f7a4_43 : decode cJ6_bitCount_0f7a4 43 = .ok (.bipush 16, 2) := by decide +kernel
theorem dJ6_bitCount_0f7a4_45 : decode cJ6_bitCount_0f7a4 45 = .ok (.iushr, 1) := by decide +kernel
theorem dJ6_bitCount_0f7a4_46 : decode cJ6_bitCount_0f7a4 46 = .ok (.iadd, 1) := by decide +kernel
theorem dJ6_bitCount_0f7a4_47 : decode cJ6_bitCount_0f7a4 47 = .ok (.istore_n 0, 1) := by decide +kernel
theorem dJ6_bitCount_0f7a4_48 : decode cJ6_bitCount_0f7a4 48 = .ok (.iload_n 0, 1) := by decide +kernel
theorem dJ6_bitCount_0f7a4_49 : decode cJ6_bitCount_0f7a4 49 = .ok (.bipush 63, 2) := by decide +kernel
theorem dJ6_bitCount_0f7a4_51 : decode cJ6_bitCount_0f7a4 51 = .ok (.iand, 1) := by decide +kernel
theorem dJ6_bitCount_0f7a4_52 : decode cJ6_bitCount_0f7a4 52 = .ok (.ireturn, 1) := by decide +kernel
theorem dJ9_max_7cf53_0 : decode cJ9_max_7cf53 0 = .ok (.iload_n 0, 1) := by decide +kernel
theorem dJ9_max_7cf53_1 : decode cJ9_max_7cf53 1 = .ok (.iload_n 1, 1) := by decide +kernel
theorem dJ9_max_7cf53_2 : decode cJ9_max_7cf53 2 = .ok (.if_icmp .lt 7, 3) := by decide +kernel
theorem dJ9_max_7cf53_5 : decode cJ9_max_7cf53 5 = .ok (.iload_n 0, 1) := by decide +kernel
theorem dJ9_max_7cf53_6 : decode cJ9_max_7cf53 6 = .ok (.goto 4, 3) := by decide +kernel
theorem dJ9_max_7cf53_9 : decode cJ9_max_7cf53 9 = .ok (.iload_n 1, 1) := by decide +kernel
theorem dJ9_max_7cf53_10 : decode cJ9_max_7cf53 10 = .ok (.ireturn, 1) := by decide +kernel
set_option maxRecDepth 20000 in
theorem ggL_addIdea_X6_addIdea : GoodIn wsL_addIdea wsX6_addIdea := goodIn_ca (goodIn_ca (goodIn_r _ [7, 8, 9, 10, 11, 12, 6, 13, 14, 15, 16, 17, 18, 19, 20, 21, 22, 23, 24, 25, 26, 27, 28, 29, 30, 31, 32, 33, 34, 35, 36, 37, 38, 39, 40, 41, 42, 43, 44, 45, 46] (by decide +kernel) (by decide +kernel)) (goodIn_sub (fun _ h => List.mem_cons_of_mem _ (List.mem_append_left _ (List.mem_append_right _ h))) (by decide +kernel))) (goodIn_sub (fun _ h => List.mem_cons_of_mem _ (List.mem_append_right _ h)) (by decide +kernel))
set_option maxRecDepth 20000 in
theorem gL_addIdea_X6_addIdea : GoodIn wsL_addIdea (wsV RL 7 RX6 yX6_addIdea wsX6_addIdea) := goodIn_app (goodIn_of _ (by decide +kernel)) ggL_addIdea_X6_addIdea
theorem dL_addIdea_0 : decode cL_addIdea 0 = .ok (.aload_n 3, 1) := by decide +kernel
theorem dL_addIdea_1 : decode cL_addIdea 1 = .ok (.iconst 0, 1) := by decide +kernel
theorem dL_addIdea_2 : decode cL_addIdea 2 = .ok (.aload_n 0, 1) := by decide +kernel
theorem dL_addIdea_3 : decode cL_addIdea 3 = .ok (.iload_n 1, 1) := by decide +kernel
theorem dL_addIdea_4 : decode cL_addIdea 4 = .ok (.iload_n 2, 1) := by decide +kernel
theorem dL_addIdea_5 : decode cL_addIdea 5 = .ok (.invokevirtual 7, 3) := by decide +kernel
theorem dL_addIdea_8 : decode cL_addIdea 8 = .ok (.i2l, 1) := by decide +kernel
theorem dL_addIdea_9 : decode cL_addIdea 9 = .ok (.lastore, 1) := by decide +kernel
theorem dL_addIdea_10 : decode cL_addIdea 10 = .ok (.goto 11, 3) := by decide +kernel
theorem dL_addIdea_13 : decode cL_addIdea 13 = .ok (.astore 4, 2) := by decide +kernel
theorem dL_addIdea_15 : decode cL_addIdea 15 = .ok (.iconst 1, 1) := by decide +kernel
theorem dL_addIdea_16 : decode cL_addIdea 16 = .ok (.ireturn, 1) := by decide +kernel
theorem dL_addIdea_17 : decode cL_addIdea 17 = .ok (.astore 4, 2) := by decide +kernel
theorem dL_addIdea_19 : decode cL_addIdea 19 = .ok (.iconst 2, 1) := by decide +kernel
theorem dL_addIdea_20 : decode cL_addIdea 20 = .ok (.ireturn, 1) := by decide +kernel
theorem dL_addIdea_21 : decode cL_addIdea 21 = .ok (.iconst 0, 1) := by decide +kernel
theorem dL_addIdea_22 : decode cL_addIdea 22 = .ok (.ireturn, 1) := by decide +kernel
set_option maxRecDepth 20000 in
theorem ggL_link_X6_link : GoodIn wsL_link wsX6_link := goodIn_ca (goodIn_ca (goodIn_r _ [7, 8, 9, 10, 6, 11, 12, 13, 14, 15, 16, 17, 18, 19, 20, 21, 22, 23, 24, 25, 26, 27, 28, 29, 30, 31, 32, 33, 34, 35, 36, 37, 38, 39, 40, 41, 42, 43, 44, 45, 46, 47, 48, 49, 50, 51, 52, 53, 54, 55, 56, 57, 58, 59, 60, 61, 62, 63, 64] (by decide +kernel) (by decide +kernel)) (goodIn_sub (fun _ h => List.mem_cons_of_mem _ (List.mem_append_left _ (List.mem_append_right _ h))) (by decide +kernel))) (goodIn_sub (fun _ h => List.mem_cons_of_mem _ (List.mem_append_right _ h)) (by decide +kernel))
set_option maxRecDepth 20000 in
theorem gL_link_X6_link : GoodIn wsL_link (wsV RL 17 RX6 yX6_link wsX6_link) := goodIn_app (goodIn_of _ (by decide +kernel)) ggL_link_X6_link
theorem dL_link_0 : decode cL_link 0 = .ok (.aload 5, 2) := by decide +kernel
theorem dL_link_2 : decode cL_link 2 = .ok (.iconst 0, 1) := by decide +kernel
theorem dL_link_3 : decode cL_link 3 = .ok (.aload_n 0, 1) := by decide +kernel
theorem dL_link_4 : decode cL_link 4 = .ok (.iload_n 1, 1) := by decide +kernel
theorem dL_link_5 : decode cL_link 5 = .ok (.iload_n 2, 1) := by decide +kernel
theorem dL_link_6 : decode cL_link 6 = .ok (.iload_n 3, 1) := by decide +kernel
theorem dL_link_7 : decode cL_link 7 = .ok (.iload 4, 2) := by decide +kernel
theorem dL_link_9 : decode cL_link 9 = .ok (.invokevirtual 17, 3) := by decide +kernel
theorem dL_link_12 : decode cL_link 12 = .ok (.ifCond .eq 7, 3) := by decide +kernel
theorem dL_link_15 : decode cL_link 15 = .ok (.lconst 1, 1) := by decide +kernel
theorem dL_link_16 : decode cL_link 16 = .ok (.goto 4, 3) := by decide +kernel
theorem dL_link_19 : decode cL_link 19 = .ok (.lconst 0, 1) := by decide +kernel
theorem dL_link_20 : decode cL_link 20 = .ok (.lastore, 1) := by decide +kernel
theorem dL_link_21 : decode cL_link 21 = .ok (.goto 11, 3) := by decide +kernel
theorem dL_link_24 : decode cL_link 24 = .ok (.astore 6, 2) := by decide +kernel
theorem dL_link_26 : decode cL_link 26 = .ok (.iconst 1, 1) := by decide +kernel
theorem dL_link_27 : decode cL_link 27 = .ok (.ireturn, 1) := by decide +kernel
theorem dL_link_28 : decode cL_link 28 = .ok (.astore 6, 2) := by decide +kernel
theorem dL_link_30 : decode cL_link 30 = .ok (.iconst 2, 1) := by decide +kernel
theorem dL_link_31 : decode cL_link 31 = .ok (.ireturn, 1) := by decide +kernel
theorem dL_link_32 : decode cL_link 32 = .ok (.iconst 0, 1) := by decide +kernel
theorem dL_link_33 : decode cL_link 33 = .ok (.ireturn, 1) := by decide +kernel
set_option maxRecDepth 20000 in
theorem ggL_clear_X6_clear : GoodIn wsL_clear wsX6_clear := goodIn_ca (goodIn_r _ [6, 7, 8, 9, 5, 10, 11, 12, 13, 14, 15, 16, 17, 18, 19, 20, 21, 22, 23, 24, 25, 26, 27, 28, 29, 30, 31, 32, 33, 34, 35, 36, 37, 38, 39, 40, 41, 42, 43, 44, 45, 46, 47, 48, 49, 50, 51, 52, 53, 54, 55, 56, 57, 58, 59, 60, 61, 62] (by decide +kernel) (by decide +kernel)) (goodIn_sub (fun _ h => List.mem_cons_of_mem _ (List.mem_append_right _ h)) (by decide +kernel))
set_option maxRecDepth 20000 in
theorem gL_clear_X6_clear : GoodIn wsL_clear (wsV RL 23 RX6 yX6_clear wsX6_clear) := goodIn_app (goodIn_of _ (by decide +kernel)) ggL_clear_X6_clear
theorem dL_clear_0 : decode cL_clear 0 = .ok (.aload_n 2, 1) := by decide +kernel
theorem dL_clear_1 : decode cL_clear 1 = .ok (.iconst 0, 1) := by decide +kernel
theorem dL_clear_2 : decode cL_clear 2 = .ok (.aload_n 0, 1) := by decide +kernel
theorem dL_clear_3 : decode cL_clear 3 = .ok (.iload_n 1, 1) := by decide +kernel
theorem dL_clear_4 : decode cL_clear 4 = .ok (.invokevirtual 23, 3) := by decide +kernel
theorem dL_clear_7 : decode cL_clear 7 = .ok (.i2l, 1) := by decide +kernel
theorem dL_clear_8 : decode cL_clear 8 = .ok (.lastore, 1) := by decide +kernel
theorem dL_clear_9 : decode cL_clear 9 = .ok (.goto 6, 3) := by decide +kernel
theorem dL_clear_12 : decode cL_clear 12 = .ok (.astore_n 3, 1) := by decide +kernel
theorem dL_clear_13 : decode cL_clear 13 = .ok (.iconst 1, 1) := by decide +kernel
theorem dL_clear_14 : decode cL_clear 14 = .ok (.ireturn, 1) := by decide +kernel
theorem dL_clear_15 : decode cL_clear 15 = .ok (.iconst 0, 1) := by decide +kernel
theorem dL_clear_16 : decode cL_clear 16 = .ok (.ireturn, 1) := by decide +kernel
set_option maxRecDepth 20000 in
theorem ggL_synonyms_X6_synonyms : GoodIn wsL_synonyms wsX6_synonyms := goodIn_ca (goodIn_r _ [6, 7, 8, 9, 5, 10, 11, 12, 13, 14, 15, 16, 17, 18, 19, 20, 21, 22, 23, 24, 25, 26, 27, 28, 29, 30, 31, 32, 33, 34, 35, 36, 37, 38, 39, 40, 41, 42, 43, 44] (by decide +kernel) (by decide +kernel)) (goodIn_sub (fun _ h => List.mem_cons_of_mem _ (List.mem_append_right _ h)) (by decide +kernel))
set_option maxRecDepth 20000 in
theorem gL_synonyms_X6_synonyms : GoodIn wsL_synonyms (wsV RL 27 RX6 yX6_synonyms wsX6_synonyms) := goodIn_app (goodIn_of _ (by decide +kernel)) ggL_synonyms_X6_synonyms
theorem dL_synonyms_0 : decode cL_synonyms 0 = .ok (.aload_n 3, 1) := by decide +kernel
theorem dL_synonyms_1 : decode cL_synonyms 1 = .ok (.iconst 0, 1) := by decide +kernel
theorem dL_synonyms_2 : decode cL_synonyms 2 = .ok (.aload_n 0, 1) := by decide +kernel
theorem dL_synonyms_3 : decode cL_synonyms 3 = .ok (.iload_n 1, 1) := by decide +kernel
theorem dL_synonyms_4 : decode cL_synonyms 4 = .ok (.iload_n 2, 1) := by decide +kernel
theorem dL_synonyms_5 : decode cL_synonyms 5 = .ok (.invokevirtual 27, 3) := by decide +kernel
theorem dL_synonyms_8 : decode cL_synonyms 8 = .ok (.ifCond .eq 7, 3) := by decide +kernel
theorem dL_synonyms_11 : decode cL_synonyms 11 = .ok (.lconst 1, 1) := by decide +kernel
theorem dL_synonyms_12 : decode cL_synonyms 12 = .ok (.goto 4, 3) := by decide +kernel
theorem dL_synonyms_15 : decode cL_synonyms 15 = .ok (.lconst 0, 1) := by decide +kernel
theorem dL_synonyms_16 : decode cL_synonyms 16 = .ok (.lastore, 1) := by decide +kernel
theorem dL_synonyms_17 : decode cL_synonyms 17 = .ok (.goto 7, 3) := by decide +kernel
theorem dL_synonyms_20 : decode cL_synonyms 20 = .ok (.astore 4, 2) := by decide +kernel
theorem dL_synonyms_22 : decode cL_synonyms 22 = .ok (.iconst 1, 1) := by decide +kernel
theorem dL_synonyms_23 : decode cL_synonyms 23 = .ok (.ireturn, 1) := by decide +kernel
theorem dL_synonyms_24 : decode cL_synonyms 24 = .ok (.iconst 0, 1) := by decide +kernel
theorem dL_synonyms_25 : decode cL_synonyms 25 = .ok (.ireturn, 1) := by decide +kernel
set_option maxRecDepth 20000 in
theorem ggL_chain_X6_chain : GoodIn wsL_chain wsX6_chain := goodIn_ca (goodIn_r _ [6, 7, 8, 9, 5, 10, 11, 12, 13, 14, 15, 16, 17, 18, 19, 20, 21, 22, 23, 24, 25, 26, 27, 28, 29, 30, 31, 32, 33, 34, 35, 36, 37, 38, 39, 40] (by decide +kernel) (by decide +kernel)) (goodIn_sub (fun _ h => List.mem_cons_of_mem _ (List.mem_append_right _ h)) (by decide +kernel))
set_option maxRecDepth 20000 in
theorem gL_chain_X6_chain : GoodIn wsL_chain (wsV RL 31 RX6 yX6_chain wsX6_chain) := goodIn_app (goodIn_of _ (by decide +kernel)) ggL_chain_X6_chain
theorem dL_chain_0 : decode cL_chain 0 = .ok (.aload 4, 2) := by decide +kernel
theorem dL_chain_2 : decode cL_chain 2 = .ok (.iconst 0, 1) := by decide +kernel
theorem dL_chain_3 : decode cL_chain 3 = .ok (.aload_n 0, 1) := by decide +kernel
theorem dL_chain_4 : decode cL_chain 4 = .ok (.iload_n 1, 1) := by decide +kernel
theorem dL_chain_5 : decode cL_chain 5 = .ok (.iload_n 2, 1) := by decide +kernel
theorem dL_chain_6 : decode cL_chain 6 = .ok (.iload_n 3, 1) := by decide +kernel
theorem dL_chain_7 : decode cL_chain 7 = .ok (.invokevirtual 31, 3) := by decide +kernel
theorem dL_chain_10 : decode cL_chain 10 = .ok (.i2l, 1) := by decide +kernel
theorem dL_chain_11 : decode cL_chain 11 = .ok (.lastore, 1) := by decide +kernel
theorem dL_chain_12 : decode cL_chain 12 = .ok (.goto 7, 3) := by decide +kernel
theorem dL_chain_15 : decode cL_chain 15 = .ok (.astore 5, 2) := by decide +kernel
theorem dL_chain_17 : decode cL_chain 17 = .ok (.iconst 1, 1) := by decide +kernel
theorem dL_chain_18 : decode cL_chain 18 = .ok (.ireturn, 1) := by decide +kernel
theorem dL_chain_19 : decode cL_chain 19 = .ok (.iconst 0, 1) := by decide +kernel
theorem dL_chain_20 : decode cL_chain 20 = .ok (.ireturn, 1) := by decide +kernel
set_option maxRecDepth 20000 in
theorem ggL_ideas_X6_ideas : GoodIn wsL_ideas wsX6_ideas := goodIn_ca (goodIn_r _ [6, 7, 8, 9, 5, 10, 11, 12, 13, 14, 15, 16, 17, 18, 19, 20, 21, 22, 23, 24, 25, 26] (by decide +kernel) (by decide +kernel)) (goodIn_sub (fun _ h => List.mem_cons_of_mem _ (List.mem_append_right _ h)) (by decide +kernel))
set_option maxRecDepth 20000 in
theorem gL_ideas_X6_ideas : GoodIn wsL_ideas (wsV RL 35 RX6 yX6_ideas wsX6_ideas) := goodIn_app (goodIn_of _ (by decide +kernel)) ggL_ideas_X6_ideas
theorem dL_ideas_0 : decode cL_ideas 0 = .ok (.aload_n 2, 1) := by decide +kernel
theorem dL_ideas_1 : decode cL_ideas 1 = .ok (.iconst 0, 1) := by decide +kernel
theorem dL_ideas_2 : decode cL_ideas 2 = .ok (.aload_n 0, 1) := by decide +kernel
theorem dL_ideas_3 : decode cL_ideas 3 = .ok (.iload_n 1, 1) := by decide +kernel
theorem dL_ideas_4 : decode cL_ideas 4 = .ok (.invokevirtual 35, 3) := by decide +kernel
theorem dL_ideas_7 : decode cL_ideas 7 = .ok (.i2l, 1) := by decide +kernel
theorem dL_ideas_8 : decode cL_ideas 8 = .ok (.lastore, 1) := by decide +kernel
theorem dL_ideas_9 : decode cL_ideas 9 = .ok (.goto 6, 3) := by decide +kernel
theorem dL_ideas_12 : decode cL_ideas 12 = .ok (.astore_n 3, 1) := by decide +kernel
theorem dL_ideas_13 : decode cL_ideas 13 = .ok (.iconst 1, 1) := by decide +kernel
theorem dL_ideas_14 : decode cL_ideas 14 = .ok (.ireturn, 1) := by decide +kernel
theorem dL_ideas_15 : decode cL_ideas 15 = .ok (.iconst 0, 1) := by decide +kernel
theorem dL_ideas_16 : decode cL_ideas 16 = .ok (.ireturn, 1) := by decide +kernel
set_option maxRecDepth 20000 in
theorem ggL_links_X6_links : GoodIn wsL_links wsX6_links := goodIn_ca (goodIn_r _ [6, 7, 8, 9, 5, 10, 11, 12, 13, 14, 15, 16, 17, 18, 19, 20, 21, 22, 23, 24, 25, 26, 27, 28, 29, 30, 31, 32, 33, 34, 35, 36, 37, 38, 39, 40, 41, 42, 43, 44, 45, 46, 47] (by decide +kernel) (by decide +kernel)) (goodIn_sub (fun _ h => List.mem_cons_of_mem _ (List.mem_append_right _ h)) (by decide +kernel))
set_option maxRecDepth 20000 in
theorem gL_links_X6_links : GoodIn wsL_links (wsV RL 38 RX6 yX6_links wsX6_links) := goodIn_app (goodIn_of _ (by decide +kernel)) ggL_links_X6_links
theorem dL_links_0 : decode cL_links 0 = .ok (.aload_n 2, 1) := by decide +kernel
theorem dL_links_1 : decode cL_links 1 = .ok (.iconst 0, 1) := by decide +kernel
theorem dL_links_2 : decode cL_links 2 = .ok (.aload_n 0, 1) := by decide +kernel
theorem dL_links_3 : decode cL_links 3 = .ok (.iload_n 1, 1) := by decide +kernel
theorem dL_links_4 : decode cL_links 4 = .ok (.invokevirtual 38, 3) := by decide +kernel
theorem dL_links_7 : decode cL_links 7 = .ok (.i2l, 1) := by decide +kernel
theorem dL_links_8 : decode cL_links 8 = .ok (.lastore, 1) := by decide +kernel
theorem dL_links_9 : decode cL_links 9 = .ok (.goto 6, 3) := by decide +kernel
theorem dL_links_12 : decode cL_links 12 = .ok (.astore_n 3, 1) := by decide +kernel
theorem dL_links_13 : decode cL_links 13 = .ok (.iconst 1, 1) := by decide +kernel
theorem dL_links_14 : decode cL_links 14 = .ok (.ireturn, 1) := by decide +kernel
theorem dL_links_15 : decode cL_links 15 = .ok (.iconst 0, 1) := by decide +kernel
theorem dL_links_16 : decode cL_links 16 = .ok (.ireturn, 1) := by decide +kernel
set_option maxRecDepth 20000 in
theorem ggL_held_X6_held : GoodIn wsL_held wsX6_held := goodIn_ca (goodIn_r _ [6, 7, 8, 9, 10, 11, 5, 12, 13, 14, 15, 16, 17, 18, 19, 20, 21, 22, 23, 24, 25, 26, 27, 28, 29, 30, 31, 32, 33, 34, 35, 36, 37, 38, 39, 40, 41, 42, 43, 44, 45, 46, 47, 48, 49, 50, 51, 52, 53, 54, 55, 56, 57, 58, 59, 60, 61, 62, 63, 64, 65, 66, 67, 68, 69, 70, 71, 72, 73, 74, 75, 76, 77, 78, 79, 80, 81, 82, 83, 84, 85, 86] (by decide +kernel) (by decide +kernel)) (goodIn_sub (fun _ h => List.mem_cons_of_mem _ (List.mem_append_right _ h)) (by decide +kernel))
set_option maxRecDepth 20000 in
theorem gL_held_X6_held : GoodIn wsL_held (wsV RL 41 RX6 yX6_held wsX6_held) := goodIn_app (goodIn_of _ (by decide +kernel)) ggL_held_X6_held
theorem dL_held_0 : decode cL_held 0 = .ok (.aload_n 2, 1) := by decide +kernel
theorem dL_held_1 : decode cL_held 1 = .ok (.iconst 0, 1) := by decide +kernel
theorem dL_held_2 : decode cL_held 2 = .ok (.aload_n 0, 1) := by decide +kernel
theorem dL_held_3 : decode cL_held 3 = .ok (.iload_n 1, 1) := by decide +kernel
theorem dL_held_4 : decode cL_held 4 = .ok (.invokevirtual 41, 3) := by decide +kernel
theorem dL_held_7 : decode cL_held 7 = .ok (.i2l, 1) := by decide +kernel
theorem dL_held_8 : decode cL_held 8 = .ok (.lastore, 1) := by decide +kernel
theorem dL_held_9 : decode cL_held 9 = .ok (.goto 6, 3) := by decide +kernel
theorem dL_held_12 : decode cL_held 12 = .ok (.astore_n 3, 1) := by decide +kernel
theorem dL_held_13 : decode cL_held 13 = .ok (.iconst 1, 1) := by decide +kernel
theorem dL_held_14 : decode cL_held 14 = .ok (.ireturn, 1) := by decide +kernel
theorem dL_held_15 : decode cL_held 15 = .ok (.iconst 0, 1) := by decide +kernel
theorem dL_held_16 : decode cL_held 16 = .ok (.ireturn, 1) := by decide +kernel
set_option maxRecDepth 20000 in
theorem ggL_holds_X6_holds : GoodIn wsL_holds wsX6_holds := goodIn_ca (goodIn_ca (goodIn_r _ [7, 8, 9, 10, 11, 12, 6, 13, 14, 15, 16, 17, 18, 19, 20, 21, 22, 23, 24, 25, 26, 27, 28, 29, 30, 31, 32, 33, 34, 35, 36, 37, 38, 39, 40, 41, 42, 43, 44, 45, 46, 47, 48, 49, 50, 51, 52, 53, 54, 55, 56, 57, 58, 59, 60, 61, 62, 63, 64, 65, 66, 67, 68, 69, 70, 71, 72, 73, 74, 75, 76, 77, 78, 79, 80, 81, 82, 83, 84, 85, 86, 87, 88, 89, 90, 91] (by decide +kernel) (by decide +kernel)) (goodIn_sub (fun _ h => List.mem_cons_of_mem _ (List.mem_append_left _ (List.mem_append_right _ h))) (by decide +kernel))) (goodIn_sub (fun _ h => List.mem_cons_of_mem _ (List.mem_append_right _ h)) (by decide +kernel))
set_option maxRecDepth 20000 in
theorem gL_holds_X6_holds : GoodIn wsL_holds (wsV RL 44 RX6 yX6_holds wsX6_holds) := goodIn_app (goodIn_of _ (by decide +kernel)) ggL_holds_X6_holds
theorem dL_holds_0 : decode cL_holds 0 = .ok (.aload 5, 2) := by decide +kernel
theorem dL_holds_2 : decode cL_holds 2 = .ok (.iconst 0, 1) := by decide +kernel
theorem dL_holds_3 : decode cL_holds 3 = .ok (.aload_n 0, 1) := by decide +kernel
theorem dL_holds_4 : decode cL_holds 4 = .ok (.iload_n 1, 1) := by decide +kernel
theorem dL_holds_5 : decode cL_holds 5 = .ok (.iload_n 2, 1) := by decide +kernel
theorem dL_holds_6 : decode cL_holds 6 = .ok (.iload_n 3, 1) := by decide +kernel
theorem dL_holds_7 : decode cL_holds 7 = .ok (.iload 4, 2) := by decide +kernel
theorem dL_holds_9 : decode cL_holds 9 = .ok (.invokevirtual 44, 3) := by decide +kernel
theorem dL_holds_12 : decode cL_holds 12 = .ok (.ifCond .eq 7, 3) := by decide +kernel
theorem dL_holds_15 : decode cL_holds 15 = .ok (.lconst 1, 1) := by decide +kernel
theorem dL_holds_16 : decode cL_holds 16 = .ok (.goto 4, 3) := by decide +kernel
theorem dL_holds_19 : decode cL_holds 19 = .ok (.lconst 0, 1) := by decide +kernel
theorem dL_holds_20 : decode cL_holds 20 = .ok (.lastore, 1) := by decide +kernel
theorem dL_holds_21 : decode cL_holds 21 = .ok (.goto 11, 3) := by decide +kernel
theorem dL_holds_24 : decode cL_holds 24 = .ok (.astore 6, 2) := by decide +kernel
theorem dL_holds_26 : decode cL_holds 26 = .ok (.iconst 1, 1) := by decide +kernel
theorem dL_holds_27 : decode cL_holds 27 = .ok (.ireturn, 1) := by decide +kernel
theorem dL_holds_28 : decode cL_holds 28 = .ok (.astore 6, 2) := by decide +kernel
theorem dL_holds_30 : decode cL_holds 30 = .ok (.iconst 2, 1) := by decide +kernel
theorem dL_holds_31 : decode cL_holds 31 = .ok (.ireturn, 1) := by decide +kernel
theorem dL_holds_32 : decode cL_holds 32 = .ok (.iconst 0, 1) := by decide +kernel
theorem dL_holds_33 : decode cL_holds 33 = .ok (.ireturn, 1) := by decide +kernel
set_option maxRecDepth 20000 in
theorem ggL_points_X6_points : GoodIn wsL_points wsX6_points := goodIn_ca (goodIn_r _ [6, 7, 8, 9, 10, 5, 11, 12, 13, 14, 15, 16, 17, 18, 19, 20, 21, 22, 23, 24, 25, 26, 27, 28, 29, 30, 31, 32, 33, 34, 35, 36, 37, 38, 39, 40, 41, 42, 43, 44, 45, 46, 47, 48, 49, 50, 51, 52, 53, 54, 55, 56, 57, 58, 59, 60, 61, 62, 63, 64, 65, 66, 67, 68, 69, 70, 71, 72, 73, 74, 75, 76, 77, 78, 79, 80, 81, 82, 83, 84, 85, 86, 87, 88, 89, 90, 91, 92, 93, 94, 95, 96, 97, 98, 99, 100, 101, 102, 103, 104, 105, 106, 107, 108, 109, 110, 111, 112, 113, 114, 115, 116, 117, 118, 119, 120, 121, 122, 123, 124, 125, 126, 127, 128, 129, 130, 131, 132, 133, 134, 135, 136, 137, 138, 139, 140, 141, 142, 143, 144, 145, 146, 147, 148, 149, 150, 151, 152, 153, 154, 155, 156, 157, 158] (by decide +kernel) (by decide +kernel)) (goodIn_sub (fun _ h => List.mem_cons_of_mem _ (List.mem_append_right _ h)) (by decide +kernel))
set_option maxRecDepth 20000 in
theorem gL_points_X6_points : GoodIn wsL_points (wsV RL 47 RX6 yX6_points wsX6_points) := goodIn_app (goodIn_of _ (by decide +kernel)) ggL_points_X6_points
theorem dL_points_0 : decode cL_points 0 = .ok (.aload_n 2, 1) := by decide +kernel
theorem dL_points_1 : decode cL_points 1 = .ok (.iconst 0, 1) := by decide +kernel
theorem dL_points_2 : decode cL_points 2 = .ok (.aload_n 0, 1) := by decide +kernel
theorem dL_points_3 : decode cL_points 3 = .ok (.iload_n 1, 1) := by decide +kernel
theorem dL_points_4 : decode cL_points 4 = .ok (.invokevirtual 47, 3) := by decide +kernel
theorem dL_points_7 : decode cL_points 7 = .ok (.i2l, 1) := by decide +kernel
theorem dL_points_8 : decode cL_points 8 = .ok (.lastore, 1) := by decide +kernel
theorem dL_points_9 : decode cL_points 9 = .ok (.goto 6, 3) := by decide +kernel
theorem dL_points_12 : decode cL_points 12 = .ok (.astore_n 3, 1) := by decide +kernel
theorem dL_points_13 : decode cL_points 13 = .ok (.iconst 1, 1) := by decide +kernel
theorem dL_points_14 : decode cL_points 14 = .ok (.ireturn, 1) := by decide +kernel
theorem dL_points_15 : decode cL_points 15 = .ok (.iconst 0, 1) := by decide +kernel
theorem dL_points_16 : decode cL_points 16 = .ok (.ireturn, 1) := by decide +kernel
set_option maxRecDepth 20000 in
theorem ggL_pointsByTrying_X6_pointsByTrying : GoodIn wsL_pointsByTrying wsX6_pointsByTrying := goodIn_ca (goodIn_r _ [6, 7, 8, 9, 10, 5, 11, 12, 13, 14, 15, 16, 17, 18, 19, 20, 21, 22, 23, 24, 25, 26, 27, 28, 29, 30, 31, 32, 33, 34, 35, 36, 37, 38, 39, 40, 41, 42, 43, 44, 45, 46, 47, 48, 49, 50, 51, 52, 53, 54, 55, 56, 57, 58, 59, 60, 61, 62, 63, 64, 65, 66, 67, 68, 69, 70, 71, 72, 73, 74, 75, 76, 77, 78, 79, 80, 81, 82, 83, 84, 85, 86, 87, 88, 89, 90, 91, 92, 93, 94, 95, 96, 97, 98, 99, 100, 101, 102, 103, 104, 105, 106, 107, 108, 109, 110, 111, 112, 113, 114, 115, 116, 117, 118, 119, 120, 121, 122, 123, 124, 125, 126, 127, 128, 129, 130, 131, 132, 133, 134, 135, 136, 137, 138, 139, 140, 141, 142, 143, 144, 145, 146, 147, 148, 149, 150, 151, 152, 153, 154, 155] (by decide +kernel) (by decide +kernel)) (goodIn_sub (fun _ h => List.mem_cons_of_mem _ (List.mem_append_right _ h)) (by decide +kernel))
set_option maxRecDepth 20000 in
theorem gL_pointsByTrying_X6_pointsByTrying : GoodIn wsL_pointsByTrying (wsV RL 50 RX6 yX6_pointsByTrying wsX6_pointsByTrying) := goodIn_app (goodIn_of _ (by decide +kernel)) ggL_pointsByTrying_X6_pointsByTrying
theorem dL_pointsByTrying_0 : decode cL_pointsByTrying 0 = .ok (.aload_n 2, 1) := by decide +kernel
theorem dL_pointsByTrying_1 : decode cL_pointsByTrying 1 = .ok (.iconst 0, 1) := by decide +kernel
theorem dL_pointsByTrying_2 : decode cL_pointsByTrying 2 = .ok (.aload_n 0, 1) := by decide +kernel
theorem dL_pointsByTrying_3 : decode cL_pointsByTrying 3 = .ok (.iload_n 1, 1) := by decide +kernel
theorem dL_pointsByTrying_4 : decode cL_pointsByTrying 4 = .ok (.invokevirtual 50, 3) := by decide +kernel
theorem dL_pointsByTrying_7 : decode cL_pointsByTrying 7 = .ok (.i2l, 1) := by decide +kernel
theorem dL_pointsByTrying_8 : decode cL_pointsByTrying 8 = .ok (.lastore, 1) := by decide +kernel
theorem dL_pointsByTrying_9 : decode cL_pointsByTrying 9 = .ok (.goto 6, 3) := by decide +kernel
theorem dL_pointsByTrying_12 : decode cL_pointsByTrying 12 = .ok (.astore_n 3, 1) := by decide +kernel
theorem dL_pointsByTrying_13 : decode cL_pointsByTrying 13 = .ok (.iconst 1, 1) := by decide +kernel
theorem dL_pointsByTrying_14 : decode cL_pointsByTrying 14 = .ok (.ireturn, 1) := by decide +kernel
theorem dL_pointsByTrying_15 : decode cL_pointsByTrying 15 = .ok (.iconst 0, 1) := by decide +kernel
theorem dL_pointsByTrying_16 : decode cL_pointsByTrying 16 = .ok (.ireturn, 1) := by decide +kernel
set_option maxRecDepth 20000 in
theorem ggL_mark_X6_mark : GoodIn wsL_mark wsX6_mark := goodIn_ca (goodIn_r _ [6, 7, 8, 9, 5, 10, 11, 12, 13, 14, 15, 16, 17, 18, 19, 20, 21, 22, 23, 24, 25, 26, 27, 28, 29, 30, 31, 32, 33, 34, 35, 36, 37, 38, 39, 40, 41, 42, 43, 44, 45, 46, 47, 48, 49, 50, 51, 52, 53, 54, 55, 56, 57, 58, 59, 60, 61, 62, 63, 64, 65, 66, 67, 68, 69, 70, 71, 72, 73, 74, 75, 76, 77, 78, 79, 80, 81, 82, 83, 84, 85, 86, 87, 88, 89, 90, 91, 92, 93, 94, 95, 96, 97, 98, 99, 100, 101, 102, 103, 104, 105, 106, 107, 108, 109, 110, 111, 112, 113, 114, 115, 116, 117, 118, 119, 120, 121, 122, 123, 124, 125, 126, 127, 128, 129, 130, 131, 132, 133, 134, 135, 136, 137, 138, 139, 140, 141, 142, 143, 144, 145, 146, 147, 148, 149, 150, 151, 152, 153, 154, 155, 156, 157, 158, 159, 160, 161, 162, 163, 164, 165, 166, 167] (by decide +kernel) (by decide +kernel)) (goodIn_sub (fun _ h => List.mem_cons_of_mem _ (List.mem_append_right _ h)) (by decide +kernel))
set_option maxRecDepth 20000 in
theorem gL_mark_X6_mark : GoodIn wsL_mark (wsV RL 53 RX6 yX6_mark wsX6_mark) := goodIn_app (goodIn_of _ (by decide +kernel)) ggL_mark_X6_mark
theorem dL_mark_0 : decode cL_mark 0 = .ok (.aload_n 2, 1) := by decide +kernel
theorem dL_mark_1 : decode cL_mark 1 = .ok (.iconst 0, 1) := by decide +kernel
theorem dL_mark_2 : decode cL_mark 2 = .ok (.aload_n 0, 1) := by decide +kernel
theorem dL_mark_3 : decode cL_mark 3 = .ok (.iload_n 1, 1) := by decide +kernel
theorem dL_mark_4 : decode cL_mark 4 = .ok (.invokevirtual 53, 3) := by decide +kernel
theorem dL_mark_7 : decode cL_mark 7 = .ok (.i2l, 1) := by decide +kernel
theorem dL_mark_8 : decode cL_mark 8 = .ok (.lastore, 1) := by decide +kernel
theorem dL_mark_9 : decode cL_mark 9 = .ok (.goto 6, 3) := by decide +kernel
theorem dL_mark_12 : decode cL_mark 12 = .ok (.astore_n 3, 1) := by decide +kernel
theorem dL_mark_13 : decode cL_mark 13 = .ok (.iconst 1, 1) := by decide +kernel
theorem dL_mark_14 : decode cL_mark 14 = .ok (.ireturn, 1) := by decide +kernel
theorem dL_mark_15 : decode cL_mark 15 = .ok (.iconst 0, 1) := by decide +kernel
theorem dL_mark_16 : decode cL_mark 16 = .ok (.ireturn, 1) := by decide +kernel
set_option maxRecDepth 20000 in
theorem ggL_matchOf_X6_matchOf : GoodIn wsL_matchOf wsX6_matchOf := goodIn_ca (goodIn_r _ [6, 7, 8, 9, 10, 11, 5, 12, 13, 14, 15, 16, 17, 18, 19, 20, 21, 22, 23, 24, 25, 26, 27, 28, 29, 30, 31, 32, 33, 34, 35, 36, 37, 38, 39, 40, 41, 42, 43, 44, 45, 46, 47, 48, 49, 50, 51, 52, 53, 54, 55, 56, 57, 58, 59, 60, 61, 62, 63, 64, 65, 66, 67, 68, 69, 70, 71, 72, 73, 74, 75, 76, 77, 78, 79, 80, 81, 82, 83, 84, 85, 86, 87, 88, 89, 90, 91, 92, 93, 94, 95, 96, 97, 98, 99, 100, 101, 102, 103, 104, 105, 106, 107, 108, 109, 110, 111, 112, 113, 114, 115, 116, 117, 118, 119, 120, 121, 122, 123, 124, 125, 126, 127, 128, 129, 130, 131, 132, 133, 134, 135, 136, 137, 138, 139, 140, 141, 142, 143, 144, 145, 146, 147, 148, 149, 150, 151, 152, 153, 154, 155, 156, 157, 158, 159, 160, 161, 162] (by decide +kernel) (by decide +kernel)) (goodIn_sub (fun _ h => List.mem_cons_of_mem _ (List.mem_append_right _ h)) (by decide +kernel))
set_option maxRecDepth 20000 in
theorem gL_matchOf_X6_matchOf : GoodIn wsL_matchOf (wsV RL 56 RX6 yX6_matchOf wsX6_matchOf) := goodIn_app (goodIn_of _ (by decide +kernel)) ggL_matchOf_X6_matchOf
theorem dL_matchOf_0 : decode cL_matchOf 0 = .ok (.aload_n 3, 1) := by decide +kernel
theorem dL_matchOf_1 : decode cL_matchOf 1 = .ok (.iconst 0, 1) := by decide +kernel
theorem dL_matchOf_2 : decode cL_matchOf 2 = .ok (.aload_n 0, 1) := by decide +kernel
theorem dL_matchOf_3 : decode cL_matchOf 3 = .ok (.iload_n 1, 1) := by decide +kernel
theorem dL_matchOf_4 : decode cL_matchOf 4 = .ok (.iload_n 2, 1) := by decide +kernel
theorem dL_matchOf_5 : decode cL_matchOf 5 = .ok (.invokevirtual 56, 3) := by decide +kernel
theorem dL_matchOf_8 : decode cL_matchOf 8 = .ok (.i2l, 1) := by decide +kernel
theorem dL_matchOf_9 : decode cL_matchOf 9 = .ok (.lastore, 1) := by decide +kernel
theorem dL_matchOf_10 : decode cL_matchOf 10 = .ok (.goto 7, 3) := by decide +kernel
theorem dL_matchOf_13 : decode cL_matchOf 13 = .ok (.astore 4, 2) := by decide +kernel
theorem dL_matchOf_15 : decode cL_matchOf 15 = .ok (.iconst 1, 1) := by decide +kernel
theorem dL_matchOf_16 : decode cL_matchOf 16 = .ok (.ireturn, 1) := by decide +kernel
theorem dL_matchOf_17 : decode cL_matchOf 17 = .ok (.iconst 0, 1) := by decide +kernel
theorem dL_matchOf_18 : decode cL_matchOf 18 = .ok (.ireturn, 1) := by decide +kernel
set_option maxRecDepth 20000 in
theorem ggL_verdict_X6_verdict : GoodIn wsL_verdict wsX6_verdict := goodIn_ca (goodIn_ca (goodIn_ca (goodIn_r _ [8, 9, 10, 11, 12, 13, 14, 15, 16, 7, 17, 18, 19, 20, 21, 22, 23, 24, 25, 26, 27, 28, 29, 30, 31, 32, 33, 34, 35, 36, 37, 38, 39, 40, 41, 42, 43, 44, 45, 46, 47, 48, 49, 50, 51, 52, 53, 54, 55, 56, 57, 58, 59, 60, 61, 62, 63, 64, 65, 66, 67, 68, 69, 70, 71, 72, 73, 74, 75, 76, 77, 78, 79, 80, 81, 82, 83, 84, 85, 86, 87, 88, 89, 90, 91, 92, 93, 94, 95, 96, 97, 98, 99, 100, 101, 102, 103, 104, 105, 106, 107, 108, 109, 110, 111, 112, 113, 114, 115, 116, 117, 118, 119, 120, 121, 122, 123, 124, 125, 126, 127, 128, 129, 130, 131, 132, 133, 134, 135, 136, 137, 138, 139, 140, 141, 142, 143, 144, 145, 146, 147, 148, 149, 150, 151, 152, 153, 154, 155, 156, 157, 158, 159, 160, 161, 162, 163, 164, 165, 166, 167, 168, 169, 170, 171, 172, 173, 174, 175, 176, 177, 178, 179, 180, 181, 182, 183, 184, 185, 186] (by decide +kernel) (by decide +kernel)) (goodIn_sub (fun _ h => List.mem_cons_of_mem _ (List.mem_append_left _ (List.mem_append_left _ (List.mem_append_right _ h)))) (by decide +kernel))) (goodIn_sub (fun _ h => List.mem_cons_of_mem _ (List.mem_append_left _ (List.mem_append_right _ h))) (by decide +kernel))) (goodIn_sub (fun _ h => List.mem_cons_of_mem _ (List.mem_append_right _ h)) (by decide +kernel))
set_option maxRecDepth 20000 in
theorem gL_verdict_X6_verdict : GoodIn wsL_verdict (wsV RL 59 RX6 yX6_verdict wsX6_verdict) := goodIn_app (goodIn_of _ (by decide +kernel)) ggL_verdict_X6_verdict
theorem dL_verdict_0 : decode cL_verdict 0 = .ok (.aload 5, 2) := by decide +kernel
theorem dL_verdict_2 : decode cL_verdict 2 = .ok (.iconst 0, 1) := by decide +kernel
theorem dL_verdict_3 : decode cL_verdict 3 = .ok (.aload_n 0, 1) := by decide +kernel
theorem dL_verdict_4 : decode cL_verdict 4 = .ok (.iload_n 1, 1) := by decide +kernel
theorem dL_verdict_5 : decode cL_verdict 5 = .ok (.iload_n 2, 1) := by decide +kernel
theorem dL_verdict_6 : decode cL_verdict 6 = .ok (.iload_n 3, 1) := by decide +kernel
theorem dL_verdict_7 : decode cL_verdict 7 = .ok (.iload 4, 2) := by decide +kernel
theorem dL_verdict_9 : decode cL_verdict 9 = .ok (.invokevirtual 59, 3) := by decide +kernel
theorem dL_verdict_12 : decode cL_verdict 12 = .ok (.i2l, 1) := by decide +kernel
theorem dL_verdict_13 : decode cL_verdict 13 = .ok (.lastore, 1) := by decide +kernel
theorem dL_verdict_14 : decode cL_verdict 14 = .ok (.goto 15, 3) := by decide +kernel
theorem dL_verdict_17 : decode cL_verdict 17 = .ok (.astore 6, 2) := by decide +kernel
theorem dL_verdict_19 : decode cL_verdict 19 = .ok (.iconst 1, 1) := by decide +kernel
theorem dL_verdict_20 : decode cL_verdict 20 = .ok (.ireturn, 1) := by decide +kernel
theorem dL_verdict_21 : decode cL_verdict 21 = .ok (.astore 6, 2) := by decide +kernel
theorem dL_verdict_23 : decode cL_verdict 23 = .ok (.iconst 2, 1) := by decide +kernel
theorem dL_verdict_24 : decode cL_verdict 24 = .ok (.ireturn, 1) := by decide +kernel
theorem dL_verdict_25 : decode cL_verdict 25 = .ok (.astore 6, 2) := by decide +kernel
theorem dL_verdict_27 : decode cL_verdict 27 = .ok (.iconst 3, 1) := by decide +kernel
theorem dL_verdict_28 : decode cL_verdict 28 = .ok (.ireturn, 1) := by decide +kernel
theorem dL_verdict_29 : decode cL_verdict 29 = .ok (.iconst 0, 1) := by decide +kernel
theorem dL_verdict_30 : decode cL_verdict 30 = .ok (.ireturn, 1) := by decide +kernel
set_option maxRecDepth 20000 in
theorem ggL_lacking_X6_lacking : GoodIn wsL_lacking wsX6_lacking := goodIn_ca (goodIn_r _ [6, 7, 8, 9, 10, 5, 11, 12, 13, 14, 15, 16, 17, 18, 19, 20, 21, 22, 23, 24, 25, 26, 27, 28, 29, 30, 31, 32, 33, 34, 35, 36, 37, 38, 39, 40, 41, 42, 43, 44, 45, 46, 47, 48, 49, 50, 51, 52, 53, 54, 55, 56, 57, 58, 59, 60, 61, 62, 63, 64, 65, 66, 67, 68, 69, 70, 71, 72, 73, 74, 75, 76, 77, 78, 79, 80, 81, 82, 83, 84, 85, 86, 87, 88, 89, 90, 91, 92, 93, 94, 95, 96, 97, 98, 99, 100, 101, 102, 103, 104, 105, 106, 107, 108, 109, 110, 111, 112, 113, 114, 115, 116, 117, 118, 119, 120, 121, 122, 123, 124, 125, 126, 127, 128, 129, 130, 131, 132, 133, 134, 135, 136, 137, 138, 139, 140, 141, 142, 143, 144, 145, 146, 147, 148, 149, 150, 151, 152, 153, 154, 155, 156, 157, 158, 159, 160, 161, 162] (by decide +kernel) (by decide +kernel)) (goodIn_sub (fun _ h => List.mem_cons_of_mem _ (List.mem_append_right _ h)) (by decide +kernel))
set_option maxRecDepth 20000 in
theorem gL_lacking_X6_lacking : GoodIn wsL_lacking (wsV RL 63 RX6 yX6_lacking wsX6_lacking) := goodIn_app (goodIn_of _ (by decide +kernel)) ggL_lacking_X6_lacking
theorem dL_lacking_0 : decode cL_lacking 0 = .ok (.aload_n 2, 1) := by decide +kernel
theorem dL_lacking_1 : decode cL_lacking 1 = .ok (.iconst 0, 1) := by decide +kernel
theorem dL_lacking_2 : decode cL_lacking 2 = .ok (.aload_n 0, 1) := by decide +kernel
theorem dL_lacking_3 : decode cL_lacking 3 = .ok (.iload_n 1, 1) := by decide +kernel
theorem dL_lacking_4 : decode cL_lacking 4 = .ok (.invokevirtual 63, 3) := by decide +kernel
theorem dL_lacking_7 : decode cL_lacking 7 = .ok (.i2l, 1) := by decide +kernel
theorem dL_lacking_8 : decode cL_lacking 8 = .ok (.lastore, 1) := by decide +kernel
theorem dL_lacking_9 : decode cL_lacking 9 = .ok (.goto 6, 3) := by decide +kernel
theorem dL_lacking_12 : decode cL_lacking 12 = .ok (.astore_n 3, 1) := by decide +kernel
theorem dL_lacking_13 : decode cL_lacking 13 = .ok (.iconst 1, 1) := by decide +kernel
theorem dL_lacking_14 : decode cL_lacking 14 = .ok (.ireturn, 1) := by decide +kernel
theorem dL_lacking_15 : decode cL_lacking 15 = .ok (.iconst 0, 1) := by decide +kernel
theorem dL_lacking_16 : decode cL_lacking 16 = .ok (.ireturn, 1) := by decide +kernel
set_option maxRecDepth 20000 in
theorem ggL_hint_X6_hint : GoodIn wsL_hint wsX6_hint := goodIn_ca (goodIn_r _ [6, 7, 8, 9, 10, 5, 11, 12, 13, 14, 15, 16, 17, 18, 19, 20, 21, 22, 23, 24, 25, 26, 27, 28, 29, 30, 31, 32, 33, 34, 35, 36, 37, 38, 39, 40, 41, 42, 43, 44, 45, 46, 47, 48, 49, 50, 51, 52, 53, 54, 55, 56, 57, 58, 59, 60, 61, 62, 63, 64, 65, 66, 67, 68, 69, 70, 71, 72, 73, 74, 75, 76, 77, 78, 79, 80, 81, 82, 83, 84, 85, 86, 87, 88, 89, 90, 91, 92, 93, 94, 95, 96, 97, 98, 99, 100, 101, 102, 103, 104, 105, 106, 107, 108, 109, 110, 111, 112, 113, 114, 115, 116, 117, 118, 119, 120, 121, 122, 123, 124, 125, 126, 127, 128, 129, 130, 131, 132, 133, 134, 135, 136, 137, 138, 139, 140, 141, 142, 143, 144, 145, 146, 147, 148, 149, 150, 151, 152, 153, 154, 155, 156, 157, 158, 159, 160, 161, 162, 163, 164, 165, 166, 167, 168, 169, 170, 171, 172, 173, 174, 175] (by decide +kernel) (by decide +kernel)) (goodIn_sub (fun _ h => List.mem_cons_of_mem _ (List.mem_append_right _ h)) (by decide +kernel))
set_option maxRecDepth 20000 in
theorem gL_hint_X6_hint : GoodIn wsL_hint (wsV RL 66 RX6 yX6_hint wsX6_hint) := goodIn_app (goodIn_of _ (by decide +kernel)) ggL_hint_X6_hint
theorem dL_hint_0 : decode cL_hint 0 = .ok (.aload_n 2, 1) := by decide +kernel
theorem dL_hint_1 : decode cL_hint 1 = .ok (.iconst 0, 1) := by decide +kernel
theorem dL_hint_2 : decode cL_hint 2 = .ok (.aload_n 0, 1) := by decide +kernel
theorem dL_hint_3 : decode cL_hint 3 = .ok (.iload_n 1, 1) := by decide +kernel
theorem dL_hint_4 : decode cL_hint 4 = .ok (.invokevirtual 66, 3) := by decide +kernel
theorem dL_hint_7 : decode cL_hint 7 = .ok (.i2l, 1) := by decide +kernel
theorem dL_hint_8 : decode cL_hint 8 = .ok (.lastore, 1) := by decide +kernel
theorem dL_hint_9 : decode cL_hint 9 = .ok (.goto 6, 3) := by decide +kernel
theorem dL_hint_12 : decode cL_hint 12 = .ok (.astore_n 3, 1) := by decide +kernel
theorem dL_hint_13 : decode cL_hint 13 = .ok (.iconst 1, 1) := by decide +kernel
theorem dL_hint_14 : decode cL_hint 14 = .ok (.ireturn, 1) := by decide +kernel
theorem dL_hint_15 : decode cL_hint 15 = .ok (.iconst 0, 1) := by decide +kernel
theorem dL_hint_16 : decode cL_hint 16 = .ok (.ireturn, 1) := by decide +kernel
set_option maxRecDepth 20000 in
theorem ggL_gain_X6_gain : GoodIn wsL_gain wsX6_gain := goodIn_ca (goodIn_r _ [6, 7, 8, 9, 10, 5, 11, 12, 13, 14, 15, 16, 17, 18, 19, 20, 21, 22, 23, 24, 25, 26, 27, 28, 29, 30, 31, 32, 33, 34, 35, 36, 37, 38, 39, 40, 41, 42, 43, 44, 45, 46, 47, 48, 49, 50, 51, 52, 53, 54, 55, 56, 57, 58, 59, 60, 61, 62, 63, 64, 65, 66, 67, 68, 69, 70, 71, 72, 73, 74, 75, 76, 77, 78, 79, 80, 81, 82, 83, 84, 85, 86, 87, 88, 89, 90, 91, 92, 93, 94, 95, 96, 97, 98, 99, 100, 101, 102, 103, 104, 105, 106, 107, 108, 109, 110, 111, 112, 113, 114, 115, 116, 117, 118, 119, 120, 121, 122, 123, 124, 125, 126, 127, 128, 129, 130, 131, 132, 133, 134, 135, 136, 137, 138, 139, 140, 141, 142, 143, 144, 145, 146, 147, 148, 149, 150, 151, 152, 153, 154, 155, 156, 157, 158, 159, 160, 161, 162, 163, 164, 165, 166, 167, 168, 169, 170, 171, 172, 173, 174, 175] (by decide +kernel) (by decide +kernel)) (goodIn_sub (fun _ h => List.mem_cons_of_mem _ (List.mem_append_right _ h)) (by decide +kernel))
set_option maxRecDepth 20000 in
theorem gL_gain_X6_gain : GoodIn wsL_gain (wsV RL 69 RX6 yX6_gain wsX6_gain) := goodIn_app (goodIn_of _ (by decide +kernel)) ggL_gain_X6_gain
theorem dL_gain_0 : decode cL_gain 0 = .ok (.aload_n 2, 1) := by decide +kernel
theorem dL_gain_1 : decode cL_gain 1 = .ok (.iconst 0, 1) := by decide +kernel
theorem dL_gain_2 : decode cL_gain 2 = .ok (.aload_n 0, 1) := by decide +kernel
theorem dL_gain_3 : decode cL_gain 3 = .ok (.iload_n 1, 1) := by decide +kernel
theorem dL_gain_4 : decode cL_gain 4 = .ok (.invokevirtual 69, 3) := by decide +kernel
theorem dL_gain_7 : decode cL_gain 7 = .ok (.i2l, 1) := by decide +kernel
theorem dL_gain_8 : decode cL_gain 8 = .ok (.lastore, 1) := by decide +kernel
theorem dL_gain_9 : decode cL_gain 9 = .ok (.goto 6, 3) := by decide +kernel
theorem dL_gain_12 : decode cL_gain 12 = .ok (.astore_n 3, 1) := by decide +kernel
theorem dL_gain_13 : decode cL_gain 13 = .ok (.iconst 1, 1) := by decide +kernel
theorem dL_gain_14 : decode cL_gain 14 = .ok (.ireturn, 1) := by decide +kernel
theorem dL_gain_15 : decode cL_gain 15 = .ok (.iconst 0, 1) := by decide +kernel
theorem dL_gain_16 : decode cL_gain 16 = .ok (.ireturn, 1) := by decide +kernel
set_option maxRecDepth 20000 in
theorem ggL_law_X6_init : GoodIn wsL_law wsX6_init := goodIn_r _ [9, 10, 11, 12, 13, 14, 15, 16, 17, 18, 19, 20, 21, 22, 23, 24, 25, 26, 27, 28, 29, 30, 31, 32, 33, 34, 35, 36, 37, 38, 39, 40, 41, 42, 43, 44, 45, 46, 47, 48, 49, 50, 51, 52, 53, 54, 55, 56, 57, 58, 59, 60, 61, 62, 63, 64, 65, 66, 67, 68, 69, 70, 71, 72, 73, 74, 75, 76, 77, 78, 79, 80, 81, 82, 83, 84, 85, 86, 87, 88, 89, 90, 91, 92, 93, 94, 595, 596, 597, 573, 574, 575, 576, 577, 578, 579, 580, 581, 582, 598, 599, 600, 601, 602, 603, 604, 605, 606, 607, 608, 609] (by decide +kernel) (by decide +kernel)
set_option maxRecDepth 20000 in
theorem gL_law_X6_init : GoodIn wsL_law (wsX6_init) := ggL_law_X6_init
set_option maxRecDepth 20000 in
theorem ggL_law_X7_init : GoodIn wsL_law wsX7_init := goodIn_r _ [97, 98, 11, 12, 55, 99, 100, 101, 102, 103, 104, 105, 106, 107, 108, 583, 584, 585, 586, 587, 588, 589, 590, 591, 592, 593, 594] (by decide +kernel) (by decide +kernel)
set_option maxRecDepth 20000 in
theorem gL_law_X7_init : GoodIn wsL_law (wsX7_init) := ggL_law_X7_init
set_option maxRecDepth 20000 in
theorem ggL_law_L_addIdea : GoodIn wsL_law wsL_addIdea := goodIn_ca (goodIn_ca (goodIn_r _ [112, 113, 114, 115, 116, 117, 2, 118, 119, 120, 121, 122, 123, 124, 125, 126, 17, 127, 128, 129, 130, 131, 132, 15, 133, 44, 134, 135, 71, 72, 43, 73, 56, 595, 596, 597, 573, 574, 575, 576, 577, 578, 579, 580, 581, 582, 609] (by decide +kernel) (by decide +kernel)) (goodIn_sub (fun _ h => List.mem_append_left _ (List.mem_append_left _ (List.mem_append_right _ h))) (by decide +kernel))) (goodIn_sub (fun _ h => List.mem_append_left _ (List.mem_append_right _ h)) (by decide +kernel))
set_option maxRecDepth 20000 in
theorem gL_law_L_addIdea : GoodIn wsL_law (va_wsS RL 76 yL_addIdea wsL_addIdea) := goodIn_app (goodIn_of _ (by decide +kernel)) ggL_law_L_addIdea
set_option maxRecDepth 20000 in
theorem ggL_law_X7_addIdea : GoodIn wsL_law wsX7_addIdea := goodIn_r _ [139, 99, 100, 140, 141, 5, 142, 143, 144, 145, 146, 147, 148, 149, 150, 151, 152, 153, 154, 583, 584, 585, 586, 587, 588, 589, 590, 591, 592, 593, 594] (by decide +kernel) (by decide +kernel)
set_option maxRecDepth 20000 in
theorem gL_law_X7_addIdea : GoodIn wsL_law (wsV RL 81 RX7 yX7_addIdea wsX7_addIdea) := goodIn_app (goodIn_of _ (by decide +kernel)) ggL_law_X7_addIdea
set_option maxRecDepth 20000 in
theorem ggL_law_X7_thrown : GoodIn wsL_law wsX7_thrown := goodIn_r _ [158, 150, 583, 584, 585, 586, 587, 588, 589, 590, 591, 592, 593, 594] (by decide +kernel) (by decide +kernel)
set_option maxRecDepth 20000 in
theorem gL_law_X7_thrown : GoodIn wsL_law (wsV RL 82 RX7 yX7_thrown wsX7_thrown) := goodIn_app (goodIn_of _ (by decide +kernel)) ggL_law_X7_thrown
set_option maxRecDepth 20000 in
theorem ggL_law_L_link : GoodIn wsL_law wsL_link := goodIn_ca (goodIn_ca (goodIn_r _ [161, 113, 162, 163, 164, 165, 2, 166, 121, 122, 123, 124, 125, 126, 17, 167, 168, 169, 170, 171, 172, 173, 174, 175, 176, 177, 178, 179, 180, 28, 181, 61, 182, 183, 184, 185, 186, 187, 188, 43, 189, 56, 190, 71, 72, 73, 191, 192, 193, 194, 595, 596, 597, 573, 574, 575, 576, 577, 578, 579, 580, 581, 582, 600, 609] (by decide +kernel) (by decide +kernel)) (goodIn_sub (fun _ h => List.mem_append_left _ (List.mem_append_right _ h)) (by decide +kernel))) (goodIn_sub (fun _ h => List.mem_append_right _ h) (by decide +kernel))
set_option maxRecDepth 20000 in
theorem gL_law_L_link : GoodIn wsL_law (va_wsS RL 86 yL_link wsL_link) := goodIn_app (goodIn_of _ (by decide +kernel)) ggL_law_L_link
set_option maxRecDepth 20000 in
theorem ggL_law_X7_link : GoodIn wsL_law wsX7_link := goodIn_r _ [198, 102, 199, 200, 201, 5, 202, 150, 203, 204, 205, 206, 99, 140, 141, 142, 207, 208, 209, 210, 211, 212, 583, 584, 585, 586, 587, 588, 589, 590, 591, 592, 593, 594] (by decide +kernel) (by decide +kernel)
set_option maxRecDepth 20000 in
theorem gL_law_X7_link : GoodIn wsL_law (wsV RL 89 RX7 yX7_link wsX7_link) := goodIn_app (goodIn_of _ (by decide +kernel)) ggL_law_X7_link
set_option maxRecDepth 20000 in
theorem ggL_law_L_clear : GoodIn wsL_law wsL_clear := goodIn_ca (goodIn_r _ [215, 113, 216, 217, 218, 2, 219, 121, 122, 123, 124, 125, 126, 17, 220, 221, 222, 15, 223, 134, 46, 224, 225, 226, 28, 227, 61, 186, 187, 188, 43, 189, 56, 228, 229, 230, 231, 232, 233, 234, 235, 236, 237, 238, 239, 82, 83, 84, 573, 574, 575, 576, 577, 578, 579, 580, 581, 582, 595, 596, 597, 600, 609] (by decide +kernel) (by decide +kernel)) (goodIn_sub (fun _ h => List.mem_append_left _ (List.mem_append_right _ h)) (by decide +kernel))
set_option maxRecDepth 20000 in
theorem gL_law_L_clear : GoodIn wsL_law (va_wsS RL 90 yL_clear wsL_clear) := goodIn_app (goodIn_of _ (by decide +kernel)) ggL_law_L_clear
set_option maxRecDepth 20000 in
theorem ggL_law_X7_clear : GoodIn wsL_law wsX7_clear := goodIn_r _ [243, 99, 102, 140, 141, 5, 142, 146, 147, 148, 149, 150, 244, 245, 246, 247, 583, 584, 585, 586, 587, 588, 589, 590, 591, 592, 593, 594] (by decide +kernel) (by decide +kernel)
set_option maxRecDepth 20000 in
theorem gL_law_X7_clear : GoodIn wsL_law (wsV RL 93 RX7 yX7_clear wsX7_clear) := goodIn_app (goodIn_of _ (by decide +kernel)) ggL_law_X7_clear
set_option maxRecDepth 20000 in
theorem ggL_law_L_synonyms : GoodIn wsL_law wsL_synonyms := goodIn_ca (goodIn_r _ [250, 113, 251, 252, 253, 2, 254, 21, 127, 128, 129, 125, 126, 255, 256, 257, 20, 258, 68, 259, 187, 188, 43, 189, 56, 260, 261, 262, 263, 70, 71, 72, 73, 573, 574, 575, 576, 577, 578, 579, 580, 581, 582, 598, 609] (by decide +kernel) (by decide +kernel)) (goodIn_sub (fun _ h => List.mem_append_left _ (List.mem_append_right _ h)) (by decide +kernel))
set_option maxRecDepth 20000 in
theorem gL_law_L_synonyms : GoodIn wsL_law (va_wsS RL 94 yL_synonyms wsL_synonyms) := goodIn_app (goodIn_of _ (by decide +kernel)) ggL_law_L_synonyms
set_option maxRecDepth 20000 in
theorem ggL_law_X7_synonyms : GoodIn wsL_law wsX7_synonyms := goodIn_r _ [267, 104, 143, 144, 5, 145, 146, 147, 148, 149, 150, 583, 584, 585, 586, 587, 588, 589, 590, 591, 592, 593, 594] (by decide +kernel) (by decide +kernel)
set_option maxRecDepth 20000 in
theorem gL_law_X7_synonyms : GoodIn wsL_law (wsV RL 96 RX7 yX7_synonyms wsX7_synonyms) := goodIn_app (goodIn_of _ (by decide +kernel)) ggL_law_X7_synonyms
set_option maxRecDepth 20000 in
theorem ggL_law_L_chain : GoodIn wsL_law wsL_chain := goodIn_ca (goodIn_r _ [270, 162, 271, 272, 273, 2, 274, 25, 175, 176, 177, 170, 171, 275, 276, 277, 24, 278, 79, 279, 187, 188, 43, 189, 56, 280, 71, 72, 73, 573, 574, 575, 576, 577, 578, 579, 580, 581, 582, 599, 609] (by decide +kernel) (by decide +kernel)) (goodIn_sub (fun _ h => List.mem_append_right _ h) (by decide +kernel))
set_option maxRecDepth 20000 in
theorem gL_law_L_chain : GoodIn wsL_law (va_wsS RL 97 yL_chain wsL_chain) := goodIn_app (goodIn_of _ (by decide +kernel)) ggL_law_L_chain
set_option maxRecDepth 20000 in
theorem ggL_law_X7_chain : GoodIn wsL_law wsX7_chain := goodIn_r _ [284, 105, 207, 208, 5, 209, 146, 147, 148, 149, 150, 583, 584, 585, 586, 587, 588, 589, 590, 591, 592, 593, 594] (by decide +kernel) (by decide +kernel)
set_option maxRecDepth 20000 in
theorem gL_law_X7_chain : GoodIn wsL_law (wsV RL 100 RX7 yX7_chain wsX7_chain) := goodIn_app (goodIn_of _ (by decide +kernel)) ggL_law_X7_chain
set_option maxRecDepth 20000 in
theorem ggL_law_L_ideas : GoodIn wsL_law wsL_ideas := goodIn_ca (goodIn_r _ [287, 113, 288, 289, 290, 2, 291, 121, 122, 123, 124, 125, 126, 17, 595, 596, 597, 573, 574, 575, 576, 577, 578, 579, 580, 581, 582] (by decide +kernel) (by decide +kernel)) (goodIn_sub (fun _ h => List.mem_append_left _ (List.mem_append_right _ h)) (by decide +kernel))
set_option maxRecDepth 20000 in
theorem gL_law_L_ideas : GoodIn wsL_law (va_wsS RL 101 yL_ideas wsL_ideas) := goodIn_app (goodIn_of _ (by decide +kernel)) ggL_law_L_ideas
set_option maxRecDepth 20000 in
theorem ggL_law_X7_ideas : GoodIn wsL_law wsX7_ideas := goodIn_r _ [295, 99, 140, 141, 5, 142, 146, 147, 148, 149, 150, 583, 584, 585, 586, 587, 588, 589, 590, 591, 592, 593, 594] (by decide +kernel) (by decide +kernel)
set_option maxRecDepth 20000 in
theorem gL_law_X7_ideas : GoodIn wsL_law (wsV RL 103 RX7 yX7_ideas wsX7_ideas) := goodIn_app (goodIn_of _ (by decide +kernel)) ggL_law_X7_ideas
set_option maxRecDepth 20000 in
theorem ggL_law_L_links : GoodIn wsL_law wsL_links := goodIn_ca (goodIn_r _ [298, 113, 299, 300, 301, 2, 302, 121, 122, 123, 124, 125, 126, 17, 303, 225, 226, 28, 227, 61, 186, 187, 188, 43, 189, 56, 228, 229, 230, 231, 232, 233, 234, 595, 596, 597, 573, 574, 575, 576, 577, 578, 579, 580, 581, 582, 600, 609] (by decide +kernel) (by decide +kernel)) (goodIn_sub (fun _ h => List.mem_append_left _ (List.mem_append_right _ h)) (by decide +kernel))
set_option maxRecDepth 20000 in
theorem gL_law_L_links : GoodIn wsL_law (va_wsS RL 104 yL_links wsL_links) := goodIn_app (goodIn_of _ (by decide +kernel)) ggL_law_L_links
set_option maxRecDepth 20000 in
theorem ggL_law_X7_links : GoodIn wsL_law wsX7_links := goodIn_r _ [307, 140, 141, 5, 142, 146, 147, 148, 149, 150, 244, 245, 246, 247, 102, 583, 584, 585, 586, 587, 588, 589, 590, 591, 592, 593, 594] (by decide +kernel) (by decide +kernel)
set_option maxRecDepth 20000 in
theorem gL_law_X7_links : GoodIn wsL_law (wsV RL 106 RX7 yX7_links wsX7_links) := goodIn_app (goodIn_of _ (by decide +kernel)) ggL_law_X7_links
set_option maxRecDepth 20000 in
theorem ggL_law_L_held : GoodIn wsL_law wsL_held := goodIn_ca (goodIn_r _ [310, 113, 311, 312, 313, 2, 314, 29, 25, 121, 122, 123, 124, 125, 126, 17, 315, 316, 317, 28, 318, 61, 319, 320, 321, 43, 322, 56, 323, 187, 188, 189, 324, 325, 326, 327, 328, 329, 330, 331, 182, 183, 184, 185, 186, 332, 333, 334, 24, 335, 79, 279, 336, 337, 338, 339, 190, 71, 72, 73, 303, 225, 226, 227, 228, 229, 230, 231, 232, 233, 234, 573, 574, 575, 576, 577, 578, 579, 580, 581, 582, 595, 596, 597, 600, 609, 599] (by decide +kernel) (by decide +kernel)) (goodIn_sub (fun _ h => List.mem_append_left _ (List.mem_append_right _ h)) (by decide +kernel))
set_option maxRecDepth 20000 in
theorem gL_law_L_held : GoodIn wsL_law (va_wsS RL 107 yL_held wsL_held) := goodIn_app (goodIn_of _ (by decide +kernel)) ggL_law_L_held
set_option maxRecDepth 20000 in
theorem ggL_law_X7_held : GoodIn wsL_law wsX7_held := goodIn_r _ [343, 103, 140, 141, 5, 142, 146, 147, 148, 149, 150, 344, 345, 346, 347, 102, 348, 349, 350, 351, 105, 210, 211, 212, 583, 584, 585, 586, 587, 588, 589, 590, 591, 592, 593, 594] (by decide +kernel) (by decide +kernel)
set_option maxRecDepth 20000 in
theorem gL_law_X7_held : GoodIn wsL_law (wsV RL 109 RX7 yX7_held wsX7_held) := goodIn_app (goodIn_of _ (by decide +kernel)) ggL_law_X7_held
set_option maxRecDepth 20000 in
theorem ggL_law_L_holds : GoodIn wsL_law wsL_holds := goodIn_ca (goodIn_ca (goodIn_r _ [354, 113, 162, 355, 356, 357, 2, 358, 29, 25, 121, 122, 123, 124, 125, 126, 17, 167, 168, 169, 170, 171, 172, 173, 174, 175, 176, 177, 315, 316, 317, 28, 318, 61, 319, 320, 321, 43, 322, 56, 323, 187, 188, 189, 324, 325, 326, 327, 328, 329, 330, 331, 182, 183, 184, 185, 186, 332, 333, 334, 24, 335, 79, 279, 336, 337, 338, 339, 190, 71, 72, 73, 359, 192, 193, 194, 573, 574, 575, 576, 577, 578, 579, 580, 581, 582, 595, 596, 597, 600, 609, 599] (by decide +kernel) (by decide +kernel)) (goodIn_sub (fun _ h => List.mem_append_left _ (List.mem_append_right _ h)) (by decide +kernel))) (goodIn_sub (fun _ h => List.mem_append_right _ h) (by decide +kernel))
set_option maxRecDepth 20000 in
theorem gL_law_L_holds : GoodIn wsL_law (va_wsS RL 110 yL_holds wsL_holds) := goodIn_app (goodIn_of _ (by decide +kernel)) ggL_law_L_holds
set_option maxRecDepth 20000 in
theorem ggL_law_X7_holds : GoodIn wsL_law wsX7_holds := goodIn_r _ [363, 103, 199, 200, 201, 5, 202, 150, 203, 204, 205, 206, 99, 140, 141, 142, 207, 208, 209, 344, 345, 346, 347, 102, 348, 349, 350, 351, 105, 210, 211, 212, 583, 584, 585, 586, 587, 588, 589, 590, 591, 592, 593, 594] (by decide +kernel) (by decide +kernel)
set_option maxRecDepth 20000 in
theorem gL_law_X7_holds : GoodIn wsL_law (wsV RL 112 RX7 yX7_holds wsX7_holds) := goodIn_app (goodIn_of _ (by decide +kernel)) ggL_law_X7_holds
set_option maxRecDepth 20000 in
theorem ggL_law_L_points : GoodIn wsL_law wsL_points := goodIn_ca (goodIn_r _ [366, 113, 367, 368, 369, 2, 370, 35, 371, 372, 373, 374, 125, 126, 121, 122, 123, 124, 17, 375, 376, 377, 378, 29, 16, 25, 21, 315, 316, 317, 28, 318, 61, 319, 320, 321, 43, 322, 56, 323, 187, 188, 189, 324, 325, 326, 327, 328, 329, 330, 331, 182, 183, 184, 185, 186, 332, 333, 334, 24, 335, 79, 279, 336, 337, 338, 339, 190, 71, 72, 73, 379, 380, 381, 34, 382, 383, 384, 89, 385, 386, 256, 257, 20, 258, 68, 259, 387, 388, 389, 390, 391, 91, 392, 393, 394, 395, 90, 396, 52, 53, 54, 397, 398, 399, 400, 401, 402, 403, 404, 229, 230, 231, 232, 233, 234, 405, 406, 407, 408, 409, 410, 411, 412, 413, 414, 415, 93, 92, 416, 417, 418, 419, 420, 573, 574, 575, 576, 577, 578, 579, 580, 581, 582, 595, 596, 597, 600, 609, 599, 601, 602, 603, 604, 605, 606, 607, 608, 598] (by decide +kernel) (by decide +kernel)) (goodIn_sub (fun _ h => List.mem_append_left _ (List.mem_append_right _ h)) (by decide +kernel))
set_option maxRecDepth 20000 in
theorem gL_law_L_points : GoodIn wsL_law (va_wsS RL 113 yL_points wsL_points) := goodIn_app (goodIn_of _ (by decide +kernel)) ggL_law_L_points
set_option maxRecDepth 20000 in
theorem ggL_law_X7_points : GoodIn wsL_law wsX7_points := goodIn_r _ [424, 425, 426, 5, 427, 146, 147, 148, 149, 150, 428, 429, 430, 431, 106, 99, 107, 344, 345, 346, 347, 103, 102, 348, 349, 350, 351, 105, 210, 211, 212, 432, 433, 434, 435, 108, 436, 437, 438, 439, 440, 441, 442, 443, 444, 445, 446, 447, 104, 100, 583, 584, 585, 586, 587, 588, 589, 590, 591, 592, 593, 594] (by decide +kernel) (by decide +kernel)
set_option maxRecDepth 20000 in
theorem gL_law_X7_points : GoodIn wsL_law (wsV RL 115 RX7 yX7_points wsX7_points) := goodIn_app (goodIn_of _ (by decide +kernel)) ggL_law_X7_points
set_option maxRecDepth 20000 in
theorem ggL_law_L_pointsByTrying : GoodIn wsL_law wsL_pointsByTrying := goodIn_ca (goodIn_r _ [450, 113, 451, 452, 453, 2, 454, 35, 371, 372, 373, 374, 125, 126, 121, 122, 123, 124, 17, 375, 376, 377, 378, 29, 16, 25, 21, 315, 316, 317, 28, 318, 61, 319, 320, 321, 43, 322, 56, 323, 187, 188, 189, 324, 325, 326, 327, 328, 329, 330, 331, 182, 183, 184, 185, 186, 332, 333, 334, 24, 335, 79, 279, 336, 337, 338, 339, 190, 71, 72, 73, 379, 380, 381, 34, 382, 383, 384, 89, 385, 386, 256, 257, 20, 258, 68, 259, 387, 388, 389, 390, 391, 91, 392, 393, 394, 395, 90, 396, 52, 53, 54, 397, 398, 399, 400, 401, 402, 403, 404, 229, 230, 231, 232, 233, 234, 405, 406, 407, 455, 456, 457, 458, 459, 460, 461, 92, 417, 418, 419, 420, 573, 574, 575, 576, 577, 578, 579, 580, 581, 582, 595, 596, 597, 600, 609, 599, 601, 602, 603, 604, 605, 606, 607, 608, 598] (by decide +kernel) (by decide +kernel)) (goodIn_sub (fun _ h => List.mem_append_left _ (List.mem_append_right _ h)) (by decide +kernel))
set_option maxRecDepth 20000 in
theorem gL_law_L_pointsByTrying : GoodIn wsL_law (va_wsS RL 116 yL_pointsByTrying wsL_pointsByTrying) := goodIn_app (goodIn_of _ (by decide +kernel)) ggL_law_L_pointsByTrying
set_option maxRecDepth 20000 in
theorem ggL_law_X7_pointsByTrying : GoodIn wsL_law wsX7_pointsByTrying := goodIn_r _ [465, 425, 426, 5, 427, 146, 147, 148, 149, 150, 428, 429, 430, 431, 106, 99, 107, 344, 345, 346, 347, 103, 102, 348, 349, 350, 351, 105, 210, 211, 212, 432, 433, 434, 435, 108, 436, 437, 438, 439, 440, 441, 442, 443, 444, 445, 446, 447, 104, 100, 583, 584, 585, 586, 587, 588, 589, 590, 591, 592, 593, 594] (by decide +kernel) (by decide +kernel)
set_option maxRecDepth 20000 in
theorem gL_law_X7_pointsByTrying : GoodIn wsL_law (wsV RL 118 RX7 yX7_pointsByTrying wsX7_pointsByTrying) := goodIn_app (goodIn_of _ (by decide +kernel)) ggL_law_X7_pointsByTrying
set_option maxRecDepth 20000 in
theorem ggL_law_L_mark : GoodIn wsL_law wsL_mark := goodIn_ca (goodIn_r _ [468, 113, 469, 470, 471, 2, 472, 371, 372, 373, 374, 125, 126, 121, 122, 123, 124, 17, 473, 474, 475, 476, 35, 303, 225, 226, 28, 227, 61, 186, 187, 188, 43, 189, 56, 228, 229, 230, 231, 232, 233, 234, 375, 376, 377, 378, 29, 16, 25, 21, 315, 316, 317, 318, 319, 320, 321, 322, 323, 324, 325, 326, 327, 328, 329, 330, 331, 182, 183, 184, 185, 332, 333, 334, 24, 335, 79, 279, 336, 337, 338, 339, 190, 71, 72, 73, 379, 380, 381, 34, 382, 383, 384, 89, 385, 386, 256, 257, 20, 258, 68, 259, 387, 388, 389, 390, 391, 91, 392, 393, 394, 395, 90, 396, 52, 53, 54, 397, 398, 399, 400, 401, 402, 403, 404, 405, 406, 407, 408, 409, 410, 411, 412, 413, 414, 415, 93, 92, 416, 417, 418, 419, 420, 573, 574, 575, 576, 577, 578, 579, 580, 581, 582, 595, 596, 597, 600, 609, 599, 601, 602, 603, 604, 605, 606, 607, 608, 598] (by decide +kernel) (by decide +kernel)) (goodIn_sub (fun _ h => List.mem_append_left _ (List.mem_append_right _ h)) (by decide +kernel))
set_option maxRecDepth 20000 in
theorem gL_law_L_mark : GoodIn wsL_law (va_wsS RL 119 yL_mark wsL_mark) := goodIn_app (goodIn_of _ (by decide +kernel)) ggL_law_L_mark
set_option maxRecDepth 20000 in
theorem ggL_law_X7_mark : GoodIn wsL_law wsX7_mark := goodIn_r _ [480, 425, 426, 5, 427, 146, 147, 148, 149, 150, 481, 482, 483, 484, 244, 245, 246, 247, 102, 428, 429, 430, 431, 106, 99, 107, 344, 345, 346, 347, 103, 348, 349, 350, 351, 105, 210, 211, 212, 432, 433, 434, 435, 108, 436, 437, 438, 439, 440, 441, 442, 443, 444, 445, 446, 447, 104, 100, 583, 584, 585, 586, 587, 588, 589, 590, 591, 592, 593, 594] (by decide +kernel) (by decide +kernel)
set_option maxRecDepth 20000 in
theorem gL_law_X7_mark : GoodIn wsL_law (wsV RL 121 RX7 yX7_mark wsX7_mark) := goodIn_app (goodIn_of _ (by decide +kernel)) ggL_law_X7_mark
set_option maxRecDepth 20000 in
theorem ggL_law_X6_bestModel : GoodIn wsL_law wsX6_bestModel := goodIn_r _ [488, 17, 303, 225, 226, 28, 227, 61, 186, 187, 188, 43, 189, 56, 228, 229, 230, 231, 232, 233, 234, 473, 474, 475, 2, 476, 35, 375, 376, 377, 378, 29, 16, 25, 21, 315, 316, 317, 318, 319, 320, 321, 322, 323, 324, 325, 326, 327, 328, 329, 330, 331, 182, 183, 184, 185, 332, 333, 334, 24, 335, 79, 279, 336, 337, 338, 339, 190, 71, 72, 73, 379, 380, 381, 34, 382, 383, 384, 89, 385, 386, 256, 257, 20, 258, 68, 259, 387, 388, 389, 390, 391, 91, 392, 393, 394, 395, 90, 396, 52, 53, 54, 397, 398, 399, 400, 401, 402, 403, 404, 405, 406, 407, 408, 409, 410, 411, 412, 413, 414, 415, 93, 92, 416, 417, 418, 419, 420, 573, 574, 575, 576, 577, 578, 579, 580, 581, 582, 595, 596, 597, 600, 609, 599, 601, 602, 603, 604, 605, 606, 607, 608, 598] (by decide +kernel) (by decide +kernel)
set_option maxRecDepth 20000 in
theorem gL_law_X6_bestModel : GoodIn wsL_law (wsV RL 122 RX6 yX6_bestModel wsX6_bestModel) := goodIn_app (goodIn_of _ (by decide +kernel)) ggL_law_X6_bestModel
set_option maxRecDepth 20000 in
theorem ggL_law_X7_bestModel : GoodIn wsL_law wsX7_bestModel := goodIn_r _ [492, 150, 244, 245, 246, 5, 247, 102, 481, 482, 483, 484, 428, 429, 430, 431, 106, 99, 107, 344, 345, 346, 347, 103, 348, 349, 350, 351, 105, 210, 211, 212, 432, 433, 434, 435, 108, 436, 437, 438, 439, 440, 441, 442, 443, 444, 445, 446, 447, 104, 100, 583, 584, 585, 586, 587, 588, 589, 590, 591, 592, 593, 594] (by decide +kernel) (by decide +kernel)
set_option maxRecDepth 20000 in
theorem gL_law_X7_bestModel : GoodIn wsL_law (wsV RL 125 RX7 yX7_bestModel wsX7_bestModel) := goodIn_app (goodIn_of _ (by decide +kernel)) ggL_law_X7_bestModel
set_option maxRecDepth 20000 in
theorem ggL_law_L_matchOf : GoodIn wsL_law wsL_matchOf := goodIn_ca (goodIn_r _ [495, 113, 496, 497, 498, 2, 499, 16, 35, 371, 372, 373, 374, 125, 126, 121, 122, 123, 124, 17, 172, 173, 174, 375, 376, 377, 378, 29, 25, 21, 315, 316, 317, 28, 318, 61, 319, 320, 321, 43, 322, 56, 323, 187, 188, 189, 324, 325, 326, 327, 328, 329, 330, 331, 182, 183, 184, 185, 186, 332, 333, 334, 24, 335, 79, 279, 336, 337, 338, 339, 190, 71, 72, 73, 379, 380, 381, 34, 382, 383, 384, 89, 385, 386, 256, 257, 20, 258, 68, 259, 387, 388, 389, 390, 391, 91, 392, 393, 394, 395, 90, 396, 52, 53, 54, 397, 398, 399, 400, 401, 402, 403, 404, 229, 230, 231, 232, 233, 234, 405, 406, 407, 408, 409, 410, 411, 412, 413, 414, 415, 93, 92, 416, 417, 418, 419, 420, 500, 573, 574, 575, 576, 577, 578, 579, 580, 581, 582, 601, 602, 603, 604, 605, 606, 607, 608, 595, 596, 597, 600, 609, 599, 598] (by decide +kernel) (by decide +kernel)) (goodIn_sub (fun _ h => List.mem_append_left _ (List.mem_append_right _ h)) (by decide +kernel))
set_option maxRecDepth 20000 in
theorem gL_law_L_matchOf : GoodIn wsL_law (va_wsS RL 126 yL_matchOf wsL_matchOf) := goodIn_app (goodIn_of _ (by decide +kernel)) ggL_law_L_matchOf
set_option maxRecDepth 20000 in
theorem ggL_law_X7_matchOf : GoodIn wsL_law wsX7_matchOf := goodIn_r _ [504, 106, 99, 425, 426, 5, 427, 203, 204, 205, 206, 140, 141, 142, 146, 147, 148, 149, 150, 428, 429, 430, 431, 107, 344, 345, 346, 347, 103, 102, 348, 349, 350, 351, 105, 210, 211, 212, 432, 433, 434, 435, 108, 436, 437, 438, 439, 440, 441, 442, 443, 444, 445, 446, 447, 104, 100, 583, 584, 585, 586, 587, 588, 589, 590, 591, 592, 593, 594] (by decide +kernel) (by decide +kernel)
set_option maxRecDepth 20000 in
theorem gL_law_X7_matchOf : GoodIn wsL_law (wsV RL 128 RX7 yX7_matchOf wsX7_matchOf) := goodIn_app (goodIn_of _ (by decide +kernel)) ggL_law_X7_matchOf
set_option maxRecDepth 20000 in
theorem ggL_law_L_verdict : GoodIn wsL_law wsL_verdict := goodIn_ca (goodIn_ca (goodIn_ca (goodIn_r _ [507, 113, 162, 114, 508, 509, 510, 2, 511, 119, 120, 35, 29, 16, 371, 372, 373, 374, 125, 126, 121, 122, 123, 124, 17, 167, 168, 169, 170, 171, 172, 173, 174, 175, 176, 177, 359, 192, 193, 28, 194, 182, 183, 184, 185, 61, 186, 187, 188, 43, 189, 56, 375, 376, 377, 378, 25, 21, 315, 316, 317, 318, 319, 320, 321, 322, 323, 324, 325, 326, 327, 328, 329, 330, 331, 332, 333, 334, 24, 335, 79, 279, 336, 337, 338, 339, 190, 71, 72, 73, 379, 380, 381, 34, 382, 383, 384, 89, 385, 386, 256, 257, 20, 258, 68, 259, 387, 388, 389, 390, 391, 91, 392, 393, 394, 395, 90, 396, 52, 53, 54, 397, 398, 399, 400, 401, 402, 403, 404, 229, 230, 231, 232, 233, 234, 405, 406, 407, 408, 409, 410, 411, 412, 413, 414, 415, 93, 92, 416, 417, 418, 419, 420, 512, 513, 514, 515, 516, 517, 518, 519, 520, 595, 596, 597, 573, 574, 575, 576, 577, 578, 579, 580, 581, 582, 600, 609, 599, 601, 602, 603, 604, 605, 606, 607, 608, 598] (by decide +kernel) (by decide +kernel)) (goodIn_sub (fun _ h => List.mem_append_left _ (List.mem_append_left _ (List.mem_append_right _ h))) (by decide +kernel))) (goodIn_sub (fun _ h => List.mem_append_left _ (List.mem_append_right _ h)) (by decide +kernel))) (goodIn_sub (fun _ h => List.mem_append_right _ h) (by decide +kernel))
set_option maxRecDepth 20000 in
theorem gL_law_L_verdict : GoodIn wsL_law (va_wsS RL 129 yL_verdict wsL_verdict) := goodIn_app (goodIn_of _ (by decide +kernel)) ggL_law_L_verdict
set_option maxRecDepth 20000 in
theorem ggL_law_X7_verdict : GoodIn wsL_law wsX7_verdict := goodIn_r _ [524, 102, 425, 426, 5, 427, 146, 147, 148, 149, 150, 199, 200, 201, 202, 203, 204, 205, 206, 99, 140, 141, 142, 207, 208, 209, 210, 211, 212, 151, 152, 153, 154, 428, 429, 430, 431, 106, 107, 344, 345, 346, 347, 103, 348, 349, 350, 351, 105, 432, 433, 434, 435, 108, 436, 437, 438, 439, 440, 441, 442, 443, 444, 445, 446, 447, 104, 100, 583, 584, 585, 586, 587, 588, 589, 590, 591, 592, 593, 594] (by decide +kernel) (by decide +kernel)
set_option maxRecDepth 20000 in
theorem gL_law_X7_verdict : GoodIn wsL_law (wsV RL 131 RX7 yX7_verdict wsX7_verdict) := goodIn_app (goodIn_of _ (by decide +kernel)) ggL_law_X7_verdict
set_option maxRecDepth 20000 in
theorem ggL_law_L_lacking : GoodIn wsL_law wsL_lacking := goodIn_ca (goodIn_r _ [527, 113, 528, 529, 530, 2, 531, 35, 371, 372, 373, 374, 125, 126, 121, 122, 123, 124, 17, 375, 376, 377, 378, 29, 16, 25, 21, 315, 316, 317, 28, 318, 61, 319, 320, 321, 43, 322, 56, 323, 187, 188, 189, 324, 325, 326, 327, 328, 329, 330, 331, 182, 183, 184, 185, 186, 332, 333, 334, 24, 335, 79, 279, 336, 337, 338, 339, 190, 71, 72, 73, 379, 380, 381, 34, 382, 383, 384, 89, 385, 386, 256, 257, 20, 258, 68, 259, 387, 388, 389, 390, 391, 91, 392, 393, 394, 395, 90, 396, 52, 53, 54, 397, 398, 399, 400, 401, 402, 403, 404, 229, 230, 231, 232, 233, 234, 405, 406, 407, 408, 409, 410, 411, 412, 413, 414, 415, 93, 92, 416, 417, 418, 419, 420, 512, 513, 514, 515, 573, 574, 575, 576, 577, 578, 579, 580, 581, 582, 595, 596, 597, 600, 609, 599, 601, 602, 603, 604, 605, 606, 607, 608, 598] (by decide +kernel) (by decide +kernel)) (goodIn_sub (fun _ h => List.mem_append_left _ (List.mem_append_right _ h)) (by decide +kernel))
set_option maxRecDepth 20000 in
theorem gL_law_L_lacking : GoodIn wsL_law (va_wsS RL 132 yL_lacking wsL_lacking) := goodIn_app (goodIn_of _ (by decide +kernel)) ggL_law_L_lacking
set_option maxRecDepth 20000 in
theorem ggL_law_X7_lacking : GoodIn wsL_law wsX7_lacking := goodIn_r _ [535, 99, 108, 425, 426, 5, 427, 146, 147, 148, 149, 150, 428, 429, 430, 431, 106, 107, 344, 345, 346, 347, 103, 102, 348, 349, 350, 351, 105, 210, 211, 212, 432, 433, 434, 435, 436, 437, 438, 439, 440, 441, 442, 443, 444, 445, 446, 447, 104, 100, 583, 584, 585, 586, 587, 588, 589, 590, 591, 592, 593, 594] (by decide +kernel) (by decide +kernel)
set_option maxRecDepth 20000 in
theorem gL_law_X7_lacking : GoodIn wsL_law (wsV RL 134 RX7 yX7_lacking wsX7_lacking) := goodIn_app (goodIn_of _ (by decide +kernel)) ggL_law_X7_lacking
set_option maxRecDepth 20000 in
theorem ggL_law_L_hint : GoodIn wsL_law wsL_hint := goodIn_ca (goodIn_r _ [538, 113, 539, 540, 541, 2, 542, 36, 371, 372, 373, 374, 125, 126, 121, 122, 123, 124, 17, 543, 544, 545, 546, 35, 37, 16, 30, 31, 375, 376, 377, 378, 29, 25, 21, 315, 316, 317, 28, 318, 61, 319, 320, 321, 43, 322, 56, 323, 187, 188, 189, 324, 325, 326, 327, 328, 329, 330, 331, 182, 183, 184, 185, 186, 332, 333, 334, 24, 335, 79, 279, 336, 337, 338, 339, 190, 71, 72, 73, 379, 380, 381, 34, 382, 383, 384, 89, 385, 386, 256, 257, 20, 258, 68, 259, 387, 388, 389, 390, 391, 91, 392, 393, 394, 395, 90, 396, 52, 53, 54, 397, 398, 399, 400, 401, 402, 403, 404, 229, 230, 231, 232, 233, 234, 405, 406, 407, 408, 409, 410, 411, 412, 413, 414, 415, 93, 92, 416, 417, 418, 419, 420, 359, 192, 193, 194, 547, 548, 549, 550, 551, 573, 574, 575, 576, 577, 578, 579, 580, 581, 582, 595, 596, 597, 600, 609, 599, 601, 602, 603, 604, 605, 606, 607, 608, 598] (by decide +kernel) (by decide +kernel)) (goodIn_sub (fun _ h => List.mem_append_left _ (List.mem_append_right _ h)) (by decide +kernel))
set_option maxRecDepth 20000 in
theorem gL_law_L_hint : GoodIn wsL_law (va_wsS RL 135 yL_hint wsL_hint) := goodIn_app (goodIn_of _ (by decide +kernel)) ggL_law_L_hint
set_option maxRecDepth 20000 in
theorem ggL_law_X7_hint : GoodIn wsL_law wsX7_hint := goodIn_r _ [555, 556, 425, 426, 5, 427, 146, 147, 148, 149, 150, 557, 558, 559, 560, 561, 99, 102, 428, 429, 430, 431, 106, 107, 344, 345, 346, 347, 103, 348, 349, 350, 351, 105, 210, 211, 212, 432, 433, 434, 435, 108, 436, 437, 438, 439, 440, 441, 442, 443, 444, 445, 446, 447, 104, 100, 583, 584, 585, 586, 587, 588, 589, 590, 591, 592, 593, 594] (by decide +kernel) (by decide +kernel)
set_option maxRecDepth 20000 in
theorem gL_law_X7_hint : GoodIn wsL_law (wsV RL 137 RX7 yX7_hint wsX7_hint) := goodIn_app (goodIn_of _ (by decide +kernel)) ggL_law_X7_hint
set_option maxRecDepth 20000 in
theorem ggL_law_L_gain : GoodIn wsL_law wsL_gain := goodIn_ca (goodIn_r _ [564, 113, 565, 566, 567, 2, 568, 37, 371, 372, 373, 374, 125, 126, 121, 122, 123, 124, 17, 543, 544, 545, 546, 35, 36, 16, 30, 31, 375, 376, 377, 378, 29, 25, 21, 315, 316, 317, 28, 318, 61, 319, 320, 321, 43, 322, 56, 323, 187, 188, 189, 324, 325, 326, 327, 328, 329, 330, 331, 182, 183, 184, 185, 186, 332, 333, 334, 24, 335, 79, 279, 336, 337, 338, 339, 190, 71, 72, 73, 379, 380, 381, 34, 382, 383, 384, 89, 385, 386, 256, 257, 20, 258, 68, 259, 387, 388, 389, 390, 391, 91, 392, 393, 394, 395, 90, 396, 52, 53, 54, 397, 398, 399, 400, 401, 402, 403, 404, 229, 230, 231, 232, 233, 234, 405, 406, 407, 408, 409, 410, 411, 412, 413, 414, 415, 93, 92, 416, 417, 418, 419, 420, 359, 192, 193, 194, 547, 548, 549, 550, 551, 573, 574, 575, 576, 577, 578, 579, 580, 581, 582, 595, 596, 597, 600, 609, 599, 601, 602, 603, 604, 605, 606, 607, 608, 598] (by decide +kernel) (by decide +kernel)) (goodIn_sub (fun _ h => List.mem_append_left _ (List.mem_append_right _ h)) (by decide +kernel))
set_option maxRecDepth 20000 in
theorem gL_law_L_gain : GoodIn wsL_law (va_wsS RL 138 yL_gain wsL_gain) := goodIn_app (goodIn_of _ (by decide +kernel)) ggL_law_L_gain
set_option maxRecDepth 20000 in
theorem ggL_law_X7_gain : GoodIn wsL_law wsX7_gain := goodIn_r _ [572, 561, 425, 426, 5, 427, 146, 147, 148, 149, 150, 557, 558, 559, 560, 556, 99, 102, 428, 429, 430, 431, 106, 107, 344, 345, 346, 347, 103, 348, 349, 350, 351, 105, 210, 211, 212, 432, 433, 434, 435, 108, 436, 437, 438, 439, 440, 441, 442, 443, 444, 445, 446, 447, 104, 100, 583, 584, 585, 586, 587, 588, 589, 590, 591, 592, 593, 594] (by decide +kernel) (by decide +kernel)
set_option maxRecDepth 20000 in
theorem gL_law_X7_gain : GoodIn wsL_law (wsV RL 140 RX7 yX7_gain wsX7_gain) := goodIn_app (goodIn_of _ (by decide +kernel)) ggL_law_X7_gain
theorem dL_law_0 : decode cL_law 0 = .ok (.new 8, 3) := by decide +kernel
theorem dL_law_3 : decode cL_law 3 = .ok (.dup, 1) := by decide +kernel
theorem dL_law_4 : decode cL_law 4 = .ok (.invokespecial 72, 3) := by decide +kernel
theorem dL_law_7 : decode cL_law 7 = .ok (.astore_n 1, 1) := by decide +kernel
theorem dL_law_8 : decode cL_law 8 = .ok (.new 73, 3) := by decide +kernel
theorem dL_law_11 : decode cL_law 11 = .ok (.dup, 1) := by decide +kernel
theorem dL_law_12 : decode cL_law 12 = .ok (.invokespecial 75, 3) := by decide +kernel
theorem dL_law_15 : decode cL_law 15 = .ok (.astore_n 2, 1) := by decide +kernel
theorem dL_law_16 : decode cL_law 16 = .ok (.iconst 1, 1) := by decide +kernel
theorem dL_law_17 : decode cL_law 17 = .ok (.newarray .long, 2) := by decide +kernel
theorem dL_law_19 : decode cL_law 19 = .ok (.astore_n 3, 1) := by decide +kernel
theorem dL_law_20 : decode cL_law 20 = .ok (.iconst 0, 1) := by decide +kernel
theorem dL_law_21 : decode cL_law 21 = .ok (.istore 4, 2) := by decide +kernel
theorem dL_law_23 : decode cL_law 23 = .ok (.iload 4, 2) := by decide +kernel
theorem dL_law_25 : decode cL_law 25 = .ok (.aload_n 0, 1) := by decide +kernel
theorem dL_law_26 : decode cL_law 26 = .ok (.arraylength, 1) := by decide +kernel
theorem dL_law_27 : decode cL_law 27 = .ok (.iconst 5, 1) := by decide +kernel
theorem dL_law_28 : decode cL_law 28 = .ok (.isub, 1) := by decide +kernel
theorem dL_law_29 : decode cL_law 29 = .ok (.if_icmp .gt 1255, 3) := by decide +kernel
theorem dL_law_32 : decode cL_law 32 = .ok (.aload_n 0, 1) := by decide +kernel
theorem dL_law_33 : decode cL_law 33 = .ok (.iload 4, 2) := by decide +kernel
theorem dL_law_35 : decode cL_law 35 = .ok (.iaload, 1) := by decide +kernel
theorem dL_law_36 : decode cL_law 36 = .ok (.bipush 31, 2) := by decide +kernel
theorem dL_law_38 : decode cL_law 38 = .ok (.iand, 1) := by decide +kernel
theorem dL_law_39 : decode cL_law 39 = .ok (.tableswitch 1239 0 17 #[85, 153, 252, 308, 383, 463, 519, 575, 631, 730, 786, 842, 898, 911, 979, 1071, 1127, 1183], 85) := by decide +kernel
theorem dL_law_124 : decode cL_law 124 = .ok (.aload_n 1, 1) := by decide +kernel
theorem dL_law_125 : decode cL_law 125 = .ok (.aload_n 0, 1) := by decide +kernel
theorem dL_law_126 : decode cL_law 126 = .ok (.iload 4, 2) := by decide +kernel
theorem dL_law_128 : decode cL_law 128 = .ok (.iconst 1, 1) := by decide +kernel
theorem dL_law_129 : decode cL_law 129 = .ok (.iadd, 1) := by decide +kernel
theorem dL_law_130 : decode cL_law 130 = .ok (.iaload, 1) := by decide +kernel
theorem dL_law_131 : decode cL_law 131 = .ok (.aload_n 0, 1) := by decide +kernel
theorem dL_law_132 : decode cL_law 132 = .ok (.iload 4, 2) := by decide +kernel
theorem dL_law_134 : decode cL_law 134 = .ok (.iconst 2, 1) := by decide +kernel
theorem dL_law_135 : decode cL_law 135 = .ok (.iadd, 1) := by decide +kernel
theorem dL_law_136 : decode cL_law 136 = .ok (.iaload, 1) := by decide +kernel
theorem dL_law_137 : decode cL_law 137 = .ok (.aload_n 3, 1) := by decide +kernel
theorem dL_law_138 : decode cL_law 138 = .ok (.invokestatic 76, 3) := by decide +kernel
theorem dL_law_141 : decode cL_law 141 = .ok (.istore 5, 2) := by decide +kernel
theorem dL_law_143 : decode cL_law 143 = .ok (.aload_n 2, 1) := by decide +kernel
theorem dL_law_144 : decode cL_law 144 = .ok (.aload_n 0, 1) := by decide +kernel
theorem dL_law_145 : decode cL_law 145 = .ok (.iload 4, 2) := by decide +kernel
theorem dL_law_147 : decode cL_law 147 = .ok (.iconst 1, 1) := by decide +kernel
theorem dL_law_148 : decode cL_law 148 = .ok (.iadd, 1) := by decide +kernel
theorem dL_law_149 : decode cL_law 149 = .ok (.iaload, 1) := by decide +kernel
theorem dL_law_150 : decode cL_law 150 = .ok (.aload_n 0, 1) := by decide +kernel
theorem dL_law_151 : decode cL_law 151 = .ok (.iload 4, 2) := by decide +kernel
theorem dL_law_153 : decode cL_law 153 = .ok (.iconst 2, 1) := by decide +kernel
theorem dL_law_154 : decode cL_law 154 = .ok (.iadd, 1) := by decide +kernel
theorem dL_law_155 : decode cL_law 155 = .ok (.iaload, 1) := by decide +kernel
theorem dL_law_156 : decode cL_law 156 = .ok (.invokevirtual 81, 3) := by decide +kernel
theorem dL_law_159 : decode cL_law 159 = .ok (.istore 6, 2) := by decide +kernel
theorem dL_law_161 : decode cL_law 161 = .ok (.aload_n 2, 1) := by decide +kernel
theorem dL_law_162 : decode cL_law 162 = .ok (.invokevirtual 82, 3) := by decide +kernel
theorem dL_law_165 : decode cL_law 165 = .ok (.iload 5, 2) := by decide +kernel
theorem dL_law_167 : decode cL_law 167 = .ok (.if_icmp .eq 5, 3) := by decide +kernel
theorem dL_law_170 : decode cL_law 170 = .ok (.iconst 0, 1) := by decide +kernel
theorem dL_law_171 : decode cL_law 171 = .ok (.ireturn, 1) := by decide +kernel
theorem dL_law_172 : decode cL_law 172 = .ok (.iload 5, 2) := by decide +kernel
theorem dL_law_174 : decode cL_law 174 = .ok (.ifCond .ne 15, 3) := by decide +kernel
theorem dL_law_177 : decode cL_law 177 = .ok (.aload_n 3, 1) := by decide +kernel
theorem dL_law_178 : decode cL_law 178 = .ok (.iconst 0, 1) := by decide +kernel
theorem dL_law_179 : decode cL_law 179 = .ok (.laload, 1) := by decide +kernel
theorem dL_law_180 : decode cL_law 180 = .ok (.iload 6, 2) := by decide +kernel
theorem dL_law_182 : decode cL_law 182 = .ok (.i2l, 1) := by decide +kernel
theorem dL_law_183 : decode cL_law 183 = .ok (.lcmp, 1) := by decide +kernel
theorem dL_law_184 : decode cL_law 184 = .ok (.ifCond .eq 5, 3) := by decide +kernel
theorem dL_law_187 : decode cL_law 187 = .ok (.iconst 0, 1) := by decide +kernel
theorem dL_law_188 : decode cL_law 188 = .ok (.ireturn, 1) := by decide +kernel
theorem dL_law_189 : decode cL_law 189 = .ok (.goto 1089, 3) := by decide +kernel
theorem dL_law_192 : decode cL_law 192 = .ok (.aload_n 1, 1) := by decide +kernel
theorem dL_law_193 : decode cL_law 193 = .ok (.aload_n 0, 1) := by decide +kernel
theorem dL_law_194 : decode cL_law 194 = .ok (.iload 4, 2) := by decide +kernel
theorem dL_law_196 : decode cL_law 196 = .ok (.iconst 1, 1) := by decide +kernel
theorem dL_law_197 : decode cL_law 197 = .ok (.iadd, 1) := by decide +kernel
theorem dL_law_198 : decode cL_law 198 = .ok (.iaload, 1) := by decide +kernel
theorem dL_law_199 : decode cL_law 199 = .ok (.aload_n 0, 1) := by decide +kernel
theorem dL_law_200 : decode cL_law 200 = .ok (.iload 4, 2) := by decide +kernel
theorem dL_law_202 : decode cL_law 202 = .ok (.iconst 2, 1) := by decide +kernel
theorem dL_law_203 : decode cL_law 203 = .ok (.iadd, 1) := by decide +kernel
theorem dL_law_204 : decode cL_law 204 = .ok (.iaload, 1) := by decide +kernel
theorem dL_law_205 : decode cL_law 205 = .ok (.aload_n 0, 1) := by decide +kernel
theorem dL_law_206 : decode cL_law 206 = .ok (.iload 4, 2) := by decide +kernel
theorem dL_law_208 : decode cL_law 208 = .ok (.iconst 3, 1) := by decide +kernel
theorem dL_law_209 : decode cL_law 209 = .ok (.iadd, 1) := by decide +kernel
theorem dL_law_210 : decode cL_law 210 = .ok (.iaload, 1) := by decide +kernel
theorem dL_law_211 : decode cL_law 211 = .ok (.aload_n 0, 1) := by decide +kernel
theorem dL_law_212 : decode cL_law 212 = .ok (.iload 4, 2) := by decide +kernel
theorem dL_law_214 : decode cL_law 214 = .ok (.iconst 4, 1) := by decide +kernel
theorem dL_law_215 : decode cL_law 215 = .ok (.iadd, 1) := by decide +kernel
theorem dL_law_216 : decode cL_law 216 = .ok (.iaload, 1) := by decide +kernel
theorem dL_law_217 : decode cL_law 217 = .ok (.aload_n 3, 1) := by decide +kernel
theorem dL_law_218 : decode cL_law 218 = .ok (.invokestatic 86, 3) := by decide +kernel
theorem dL_law_221 : decode cL_law 221 = .ok (.istore 5, 2) := by decide +kernel
theorem dL_law_223 : decode cL_law 223 = .ok (.aload_n 2, 1) := by decide +kernel
theorem dL_law_224 : decode cL_law 224 = .ok (.aload_n 0, 1) := by decide +kernel
theorem dL_law_225 : decode cL_law 225 = .ok (.iload 4, 2) := by decide +kernel
theorem dL_law_227 : decode cL_law 227 = .ok (.iconst 1, 1) := by decide +kernel
theorem dL_law_228 : decode cL_law 228 = .ok (.iadd, 1) := by decide +kernel
theorem dL_law_229 : decode cL_law 229 = .ok (.iaload, 1) := by decide +kernel
theorem dL_law_230 : decode cL_law 230 = .ok (.aload_n 0, 1) := by decide +kernel
theorem dL_law_231 : decode cL_law 231 = .ok (.iload 4, 2) := by decide +kernel
theorem dL_law_233 : decode cL_law 233 = .ok (.iconst 2, 1) := by decide +kernel
theorem dL_law_234 : decode cL_law 234 = .ok (.iadd, 1) := by decide +kernel
theorem dL_law_235 : decode cL_law 235 = .ok (.iaload, 1) := by decide +kernel
theorem dL_law_236 : decode cL_law 236 = .ok (.aload_n 0, 1) := by decide +kernel
theorem dL_law_237 : decode cL_law 237 = .ok (.iload 4, 2) := by decide +kernel
theorem dL_law_239 : decode cL_law 239 = .ok (.iconst 3, 1) := by decide +kernel
theorem dL_law_240 : decode cL_law 240 = .ok (.iadd, 1) := by decide +kernel
theorem dL_law_241 : decode cL_law 241 = .ok (.iaload, 1) := by decide +kernel
theorem dL_law_242 : decode cL_law 242 = .ok (.aload_n 0, 1) := by decide +kernel
theorem dL_law_243 : decode cL_law 243 = .ok (.iload 4, 2) := by decide +kernel
theorem dL_law_245 : decode cL_law 245 = .ok (.iconst 4, 1) := by decide +kernel
theorem dL_law_246 : decode cL_law 246 = .ok (.iadd, 1) := by decide +kernel
theorem dL_law_247 : decode cL_law 247 = .ok (.iaload, 1) := by decide +kernel
theorem dL_law_248 : decode cL_law 248 = .ok (.invokevirtual 89, 3) := by decide +kernel
theorem dL_law_251 : decode cL_law 251 = .ok (.istore 6, 2) := by decide +kernel
theorem dL_law_253 : decode cL_law 253 = .ok (.aload_n 2, 1) := by decide +kernel
theorem dL_law_254 : decode cL_law 254 = .ok (.invokevirtual 82, 3) := by decide +kernel
theorem dL_law_257 : decode cL_law 257 = .ok (.iload 5, 2) := by decide +kernel
theorem dL_law_259 : decode cL_law 259 = .ok (.if_icmp .eq 5, 3) := by decide +kernel
theorem dL_law_262 : decode cL_law 262 = .ok (.iconst 0, 1) := by decide +kernel
theorem dL_law_263 : decode cL_law 263 = .ok (.ireturn, 1) := by decide +kernel
theorem dL_law_264 : decode cL_law 264 = .ok (.iload 5, 2) := by decide +kernel
theorem dL_law_266 : decode cL_law 266 = .ok (.ifCond .ne 22, 3) := by decide +kernel
theorem dL_law_269 : decode cL_law 269 = .ok (.aload_n 3, 1) := by decide +kernel
theorem dL_law_270 : decode cL_law 270 = .ok (.iconst 0, 1) := by decide +kernel
theorem dL_law_271 : decode cL_law 271 = .ok (.laload, 1) := by decide +kernel
theorem dL_law_272 : decode cL_law 272 = .ok (.iload 6, 2) := by decide +kernel
theorem dL_law_274 : decode cL_law 274 = .ok (.ifCond .eq 7, 3) := by decide +kernel
theorem dL_law_277 : decode cL_law 277 = .ok (.lconst 1, 1) := by decide +kernel
theorem dL_law_278 : decode cL_law 278 = .ok (.goto 4, 3) := by decide +kernel
theorem dL_law_281 : decode cL_law 281 = .ok (.lconst 0, 1) := by decide +kernel
theorem dL_law_282 : decode cL_law 282 = .ok (.lcmp, 1) := by decide +kernel
theorem dL_law_283 : decode cL_law 283 = .ok (.ifCond .eq 5, 3) := by decide +kernel
theorem dL_law_286 : decode cL_law 286 = .ok (.iconst 0, 1) := by decide +kernel
theorem dL_law_287 : decode cL_law 287 = .ok (.ireturn, 1) := by decide +kernel
theorem dL_law_288 : decode cL_law 288 = .ok (.goto 990, 3) := by decide +kernel
theorem dL_law_291 : decode cL_law 291 = .ok (.aload_n 1, 1) := by decide +kernel
theorem dL_law_292 : decode cL_law 292 = .ok (.aload_n 0, 1) := by decide +kernel
theorem dL_law_293 : decode cL_law 293 = .ok (.iload 4, 2) := by decide +kernel
theorem dL_law_295 : decode cL_law 295 = .ok (.iconst 1, 1) := by decide +kernel
theorem dL_law_296 : decode cL_law 296 = .ok (.iadd, 1) := by decide +kernel
theorem dL_law_297 : decode cL_law 297 = .ok (.iaload, 1) := by decide +kernel
theorem dL_law_298 : decode cL_law 298 = .ok (.aload_n 3, 1) := by decide +kernel
theorem dL_law_299 : decode cL_law 299 = .ok (.invokestatic 90, 3) := by decide +kernel
theorem dL_law_302 : decode cL_law 302 = .ok (.istore 5, 2) := by decide +kernel
theorem dL_law_304 : decode cL_law 304 = .ok (.aload_n 2, 1) := by decide +kernel
theorem dL_law_305 : decode cL_law 305 = .ok (.aload_n 0, 1) := by decide +kernel
theorem dL_law_306 : decode cL_law 306 = .ok (.iload 4, 2) := by decide +kernel
theorem dL_law_308 : decode cL_law 308 = .ok (.iconst 1, 1) := by decide +kernel
theorem dL_law_309 : decode cL_law 309 = .ok (.iadd, 1) := by decide +kernel
theorem dL_law_310 : decode cL_law 310 = .ok (.iaload, 1) := by decide +kernel
theorem dL_law_311 : decode cL_law 311 = .ok (.invokevirtual 93, 3) := by decide +kernel
theorem dL_law_314 : decode cL_law 314 = .ok (.istore 6, 2) := by decide +kernel
theorem dL_law_316 : decode cL_law 316 = .ok (.aload_n 2, 1) := by decide +kernel
theorem dL_law_317 : decode cL_law 317 = .ok (.invokevirtual 82, 3) := by decide +kernel
theorem dL_law_320 : decode cL_law 320 = .ok (.iload 5, 2) := by decide +kernel
theorem dL_law_322 : decode cL_law 322 = .ok (.if_icmp .eq 5, 3) := by decide +kernel
theorem dL_law_325 : decode cL_law 325 = .ok (.iconst 0, 1) := by decide +kernel
theorem dL_law_326 : decode cL_law 326 = .ok (.ireturn, 1) := by decide +kernel
theorem dL_law_327 : decode cL_law 327 = .ok (.iload 5, 2) := by decide +kernel
theorem dL_law_329 : decode cL_law 329 = .ok (.ifCond .ne 15, 3) := by decide +kernel
theorem dL_law_332 : decode cL_law 332 = .ok (.aload_n 3, 1) := by decide +kernel
theorem dL_law_333 : decode cL_law 333 = .ok (.iconst 0, 1) := by decide +kernel
theorem dL_law_334 : decode cL_law 334 = .ok (.laload, 1) := by decide +kernel
theorem dL_law_335 : decode cL_law 335 = .ok (.iload 6, 2) := by decide +kernel
theorem dL_law_337 : decode cL_law 337 = .ok (.i2l, 1) := by decide +kernel
theorem dL_law_338 : decode cL_law 338 = .ok (.lcmp, 1) := by decide +kernel
theorem dL_law_339 : decode cL_law 339 = .ok (.ifCond .eq 5, 3) := by decide +kernel
theorem dL_law_342 : decode cL_law 342 = .ok (.iconst 0, 1) := by decide +kernel
theorem dL_law_343 : decode cL_law 343 = .ok (.ireturn, 1) := by decide +kernel
theorem dL_law_344 : decode cL_law 344 = .ok (.goto 934, 3) := by decide +kernel
theorem dL_law_347 : decode cL_law 347 = .ok (.aload_n 1, 1) := by decide +kernel
theorem dL_law_348 : decode cL_law 348 = .ok (.aload_n 0, 1) := by decide +kernel
theorem dL_law_349 : decode cL_law 349 = .ok (.iload 4, 2) := by decide +kernel
theorem dL_law_351 : decode cL_law 351 = .ok (.iconst 1, 1) := by decide +kernel
theorem dL_law_352 : decode cL_law 352 = .ok (.iadd, 1) := by decide +kernel
theorem dL_law_353 : decode cL_law 353 = .ok (.iaload, 1) := by decide +kernel
theorem dL_law_354 : decode cL_law 354 = .ok (.aload_n 0, 1) := by decide +kernel
theorem dL_law_355 : decode cL_law 355 = .ok (.iload 4, 2) := by decide +kernel
theorem dL_law_357 : decode cL_law 357 = .ok (.iconst 2, 1) := by decide +kernel
theorem dL_law_358 : decode cL_law 358 = .ok (.iadd, 1) := by decide +kernel
theorem dL_law_359 : decode cL_law 359 = .ok (.iaload, 1) := by decide +kernel
theorem dL_law_360 : decode cL_law 360 = .ok (.aload_n 3, 1) := by decide +kernel
theorem dL_law_361 : decode cL_law 361 = .ok (.invokestatic 94, 3) := by decide +kernel
theorem dL_law_364 : decode cL_law 364 = .ok (.istore 5, 2) := by decide +kernel
theorem dL_law_366 : decode cL_law 366 = .ok (.aload_n 2, 1) := by decide +kernel
theorem dL_law_367 : decode cL_law 367 = .ok (.aload_n 0, 1) := by decide +kernel
theorem dL_law_368 : decode cL_law 368 = .ok (.iload 4, 2) := by decide +kernel
theorem dL_law_370 : decode cL_law 370 = .ok (.iconst 1, 1) := by decide +kernel
theorem dL_law_371 : decode cL_law 371 = .ok (.iadd, 1) := by decide +kernel
theorem dL_law_372 : decode cL_law 372 = .ok (.iaload, 1) := by decide +kernel
theorem dL_law_373 : decode cL_law 373 = .ok (.aload_n 0, 1) := by decide +kernel
theorem dL_law_374 : decode cL_law 374 = .ok (.iload 4, 2) := by decide +kernel
theorem dL_law_376 : decode cL_law 376 = .ok (.iconst 2, 1) := by decide +kernel
theorem dL_law_377 : decode cL_law 377 = .ok (.iadd, 1) := by decide +kernel
theorem dL_law_378 : decode cL_law 378 = .ok (.iaload, 1) := by decide +kernel
theorem dL_law_379 : decode cL_law 379 = .ok (.invokevirtual 96, 3) := by decide +kernel
theorem dL_law_382 : decode cL_law 382 = .ok (.istore 6, 2) := by decide +kernel
theorem dL_law_384 : decode cL_law 384 = .ok (.aload_n 2, 1) := by decide +kernel
theorem dL_law_385 : decode cL_law 385 = .ok (.invokevirtual 82, 3) := by decide +kernel
theorem dL_law_388 : decode cL_law 388 = .ok (.iload 5, 2) := by decide +kernel
theorem dL_law_390 : decode cL_law 390 = .ok (.if_icmp .eq 5, 3) := by decide +kernel
theorem dL_law_393 : decode cL_law 393 = .ok (.iconst 0, 1) := by decide +kernel
theorem dL_law_394 : decode cL_law 394 = .ok (.ireturn, 1) := by decide +kernel
theorem dL_law_395 : decode cL_law 395 = .ok (.iload 5, 2) := by decide +kernel
theorem dL_law_397 : decode cL_law 397 = .ok (.ifCond .ne 22, 3) := by decide +kernel
theorem dL_law_400 : decode cL_law 400 = .ok (.aload_n 3, 1) := by decide +kernel
theorem dL_law_401 : decode cL_law 401 = .ok (.iconst 0, 1) := by decide +kernel
theorem dL_law_402 : decode cL_law 402 = .ok (.laload, 1) := by decide +kernel
theorem dL_law_403 : decode cL_law 403 = .ok (.iload 6, 2) := by decide +kernel
theorem dL_law_405 : decode cL_law 405 = .ok (.ifCond .eq 7, 3) := by decide +kernel
theorem dL_law_408 : decode cL_law 408 = .ok (.lconst 1, 1) := by decide +kernel
theorem dL_law_409 : decode cL_law 409 = .ok (.goto 4, 3) := by decide +kernel
theorem dL_law_412 : decode cL_law 412 = .ok (.lconst 0, 1) := by decide +kernel
theorem dL_law_413 : decode cL_law 413 = .ok (.lcmp, 1) := by decide +kernel
theorem dL_law_414 : decode cL_law 414 = .ok (.ifCond .eq 5, 3) := by decide +kernel
theorem dL_law_417 : decode cL_law 417 = .ok (.iconst 0, 1) := by decide +kernel
theorem dL_law_418 : decode cL_law 418 = .ok (.ireturn, 1) := by decide +kernel
theorem dL_law_419 : decode cL_law 419 = .ok (.goto 859, 3) := by decide +kernel
theorem dL_law_422 : decode cL_law 422 = .ok (.aload_n 1, 1) := by decide +kernel
theorem dL_law_423 : decode cL_law 423 = .ok (.aload_n 0, 1) := by decide +kernel
theorem dL_law_424 : decode cL_law 424 = .ok (.iload 4, 2) := by decide +kernel
theorem dL_law_426 : decode cL_law 426 = .ok (.iconst 1, 1) := by decide +kernel
theorem dL_law_427 : decode cL_law 427 = .ok (.iadd, 1) := by decide +kernel
theorem dL_law_428 : decode cL_law 428 = .ok (.iaload, 1) := by decide +kernel
theorem dL_law_429 : decode cL_law 429 = .ok (.aload_n 0, 1) := by decide +kernel
theorem dL_law_430 : decode cL_law 430 = .ok (.iload 4, 2) := by decide +kernel
theorem dL_law_432 : decode cL_law 432 = .ok (.iconst 2, 1) := by decide +kernel
theorem dL_law_433 : decode cL_law 433 = .ok (.iadd, 1) := by decide +kernel
theorem dL_law_434 : decode cL_law 434 = .ok (.iaload, 1) := by decide +kernel
theorem dL_law_435 : decode cL_law 435 = .ok (.aload_n 0, 1) := by decide +kernel
theorem dL_law_436 : decode cL_law 436 = .ok (.iload 4, 2) := by decide +kernel
theorem dL_law_438 : decode cL_law 438 = .ok (.iconst 3, 1) := by decide +kernel
theorem dL_law_439 : decode cL_law 439 = .ok (.iadd, 1) := by decide +kernel
theorem dL_law_440 : decode cL_law 440 = .ok (.iaload, 1) := by decide +kernel
theorem dL_law_441 : decode cL_law 441 = .ok (.aload_n 3, 1) := by decide +kernel
theorem dL_law_442 : decode cL_law 442 = .ok (.invokestatic 97, 3) := by decide +kernel
theorem dL_law_445 : decode cL_law 445 = .ok (.istore 5, 2) := by decide +kernel
theorem dL_law_447 : decode cL_law 447 = .ok (.aload_n 2, 1) := by decide +kernel
theorem dL_law_448 : decode cL_law 448 = .ok (.aload_n 0, 1) := by decide +kernel
theorem dL_law_449 : decode cL_law 449 = .ok (.iload 4, 2) := by decide +kernel
theorem dL_law_451 : decode cL_law 451 = .ok (.iconst 1, 1) := by decide +kernel
theorem dL_law_452 : decode cL_law 452 = .ok (.iadd, 1) := by decide +kernel
theorem dL_law_453 : decode cL_law 453 = .ok (.iaload, 1) := by decide +kernel
theorem dL_law_454 : decode cL_law 454 = .ok (.aload_n 0, 1) := by decide +kernel
theorem dL_law_455 : decode cL_law 455 = .ok (.iload 4, 2) := by decide +kernel
theorem dL_law_457 : decode cL_law 457 = .ok (.iconst 2, 1) := by decide +kernel
theorem dL_law_458 : decode cL_law 458 = .ok (.iadd, 1) := by decide +kernel
theorem dL_law_459 : decode cL_law 459 = .ok (.iaload, 1) := by decide +kernel
theorem dL_law_460 : decode cL_law 460 = .ok (.aload_n 0, 1) := by decide +kernel
theorem dL_law_461 : decode cL_law 461 = .ok (.iload 4, 2) := by decide +kernel
theorem dL_law_463 : decode cL_law 463 = .ok (.iconst 3, 1) := by decide +kernel
theorem dL_law_464 : decode cL_law 464 = .ok (.iadd, 1) := by decide +kernel
theorem dL_law_465 : decode cL_law 465 = .ok (.iaload, 1) := by decide +kernel
theorem dL_law_466 : decode cL_law 466 = .ok (.invokevirtual 100, 3) := by decide +kernel
theorem dL_law_469 : decode cL_law 469 = .ok (.istore 6, 2) := by decide +kernel
theorem dL_law_471 : decode cL_law 471 = .ok (.aload_n 2, 1) := by decide +kernel
theorem dL_law_472 : decode cL_law 472 = .ok (.invokevirtual 82, 3) := by decide +kernel
theorem dL_law_475 : decode cL_law 475 = .ok (.iload 5, 2) := by decide +kernel
theorem dL_law_477 : decode cL_law 477 = .ok (.if_icmp .eq 5, 3) := by decide +kernel
theorem dL_law_480 : decode cL_law 480 = .ok (.iconst 0, 1) := by decide +kernel
theorem dL_law_481 : decode cL_law 481 = .ok (.ireturn, 1) := by decide +kernel
theorem dL_law_482 : decode cL_law 482 = .ok (.iload 5, 2) := by decide +kernel
theorem dL_law_484 : decode cL_law 484 = .ok (.ifCond .ne 15, 3) := by decide +kernel
theorem dL_law_487 : decode cL_law 487 = .ok (.aload_n 3, 1) := by decide +kernel
theorem dL_law_488 : decode cL_law 488 = .ok (.iconst 0, 1) := by decide +kernel
theorem dL_law_489 : decode cL_law 489 = .ok (.laload, 1) := by decide +kernel
theorem dL_law_490 : decode cL_law 490 = .ok (.iload 6, 2) := by decide +kernel
theorem dL_law_492 : decode cL_law 492 = .ok (.i2l, 1) := by decide +kernel
theorem dL_law_493 : decode cL_law 493 = .ok (.lcmp, 1) := by decide +kernel
theorem dL_law_494 : decode cL_law 494 = .ok (.ifCond .eq 5, 3) := by decide +kernel
theorem dL_law_497 : decode cL_law 497 = .ok (.iconst 0, 1) := by decide +kernel
theorem dL_law_498 : decode cL_law 498 = .ok (.ireturn, 1) := by decide +kernel
theorem dL_law_499 : decode cL_law 499 = .ok (.goto 779, 3) := by decide +kernel
theorem dL_law_502 : decode cL_law 502 = .ok (.aload_n 1, 1) := by decide +kernel
theorem dL_law_503 : decode cL_law 503 = .ok (.aload_n 0, 1) := by decide +kernel
theorem dL_law_504 : decode cL_law 504 = .ok (.iload 4, 2) := by decide +kernel
theorem dL_law_506 : decode cL_law 506 = .ok (.iconst 1, 1) := by decide +kernel
theorem dL_law_507 : decode cL_law 507 = .ok (.iadd, 1) := by decide +kernel
theorem dL_law_508 : decode cL_law 508 = .ok (.iaload, 1) := by decide +kernel
theorem dL_law_509 : decode cL_law 509 = .ok (.aload_n 3, 1) := by decide +kernel
theorem dL_law_510 : decode cL_law 510 = .ok (.invokestatic 101, 3) := by decide +kernel
theorem dL_law_513 : decode cL_law 513 = .ok (.istore 5, 2) := by decide +kernel
theorem dL_law_515 : decode cL_law 515 = .ok (.aload_n 2, 1) := by decide +kernel
theorem dL_law_516 : decode cL_law 516 = .ok (.aload_n 0, 1) := by decide +kernel
theorem dL_law_517 : decode cL_law 517 = .ok (.iload 4, 2) := by decide +kernel
theorem dL_law_519 : decode cL_law 519 = .ok (.iconst 1, 1) := by decide +kernel
theorem dL_law_520 : decode cL_law 520 = .ok (.iadd, 1) := by decide +kernel
theorem dL_law_521 : decode cL_law 521 = .ok (.iaload, 1) := by decide +kernel
theorem dL_law_522 : decode cL_law 522 = .ok (.invokevirtual 103, 3) := by decide +kernel
theorem dL_law_525 : decode cL_law 525 = .ok (.istore 6, 2) := by decide +kernel
theorem dL_law_527 : decode cL_law 527 = .ok (.aload_n 2, 1) := by decide +kernel
theorem dL_law_528 : decode cL_law 528 = .ok (.invokevirtual 82, 3) := by decide +kernel
theorem dL_law_531 : decode cL_law 531 = .ok (.iload 5, 2) := by decide +kernel
theorem dL_law_533 : decode cL_law 533 = .ok (.if_icmp .eq 5, 3) := by decide +kernel
theorem dL_law_536 : decode cL_law 536 = .ok (.iconst 0, 1) := by decide +kernel
theorem dL_law_537 : decode cL_law 537 = .ok (.ireturn, 1) := by decide +kernel
theorem dL_law_538 : decode cL_law 538 = .ok (.iload 5, 2) := by decide +kernel
theorem dL_law_540 : decode cL_law 540 = .ok (.ifCond .ne 15, 3) := by decide +kernel
theorem dL_law_543 : decode cL_law 543 = .ok (.aload_n 3, 1) := by decide +kernel
theorem dL_law_544 : decode cL_law 544 = .ok (.iconst 0, 1) := by decide +kernel
theorem dL_law_545 : decode cL_law 545 = .ok (.laload, 1) := by decide +kernel
theorem dL_law_546 : decode cL_law 546 = .ok (.iload 6, 2) := by decide +kernel
theorem dL_law_548 : decode cL_law 548 = .ok (.i2l, 1) := by decide +kernel
theorem dL_law_549 : decode cL_law 549 = .ok (.lcmp, 1) := by decide +kernel
theorem dL_law_550 : decode cL_law 550 = .ok (.ifCond .eq 5, 3) := by decide +kernel
theorem dL_law_553 : decode cL_law 553 = .ok (.iconst 0, 1) := by decide +kernel
theorem dL_law_554 : decode cL_law 554 = .ok (.ireturn, 1) := by decide +kernel
theorem dL_law_555 : decode cL_law 555 = .ok (.goto 723, 3) := by decide +kernel
theorem dL_law_558 : decode cL_law 558 = .ok (.aload_n 1, 1) := by decide +kernel
theorem dL_law_559 : decode cL_law 559 = .ok (.aload_n 0, 1) := by decide +kernel
theorem dL_law_560 : decode cL_law 560 = .ok (.iload 4, 2) := by decide +kernel
theorem dL_law_562 : decode cL_law 562 = .ok (.iconst 1, 1) := by decide +kernel
theorem dL_law_563 : decode cL_law 563 = .ok (.iadd, 1) := by decide +kernel
theorem dL_law_564 : decode cL_law 564 = .ok (.iaload, 1) := by decide +kernel
theorem dL_law_565 : decode cL_law 565 = .ok (.aload_n 3, 1) := by decide +kernel
theorem dL_law_566 : decode cL_law 566 = .ok (.invokestatic 104, 3) := by decide +kernel
theorem dL_law_569 : decode cL_law 569 = .ok (.istore 5, 2) := by decide +kernel
theorem dL_law_571 : decode cL_law 571 = .ok (.aload_n 2, 1) := by decide +kernel
theorem dL_law_572 : decode cL_law 572 = .ok (.aload_n 0, 1) := by decide +kernel
theorem dL_law_573 : decode cL_law 573 = .ok (.iload 4, 2) := by decide +kernel
theorem dL_law_575 : decode cL_law 575 = .ok (.iconst 1, 1) := by decide +kernel
theorem dL_law_576 : decode cL_law 576 = .ok (.iadd, 1) := by decide +kernel
theorem dL_law_577 : decode cL_law 577 = .ok (.iaload, 1) := by decide +kernel
theorem dL_law_578 : decode cL_law 578 = .ok (.invokevirtual 106, 3) := by decide +kernel
theorem dL_law_581 : decode cL_law 581 = .ok (.istore 6, 2) := by decide +kernel
theorem dL_law_583 : decode cL_law 583 = .ok (.aload_n 2, 1) := by decide +kernel
theorem dL_law_584 : decode cL_law 584 = .ok (.invokevirtual 82, 3) := by decide +kernel
theorem dL_law_587 : decode cL_law 587 = .ok (.iload 5, 2) := by decide +kernel
theorem dL_law_589 : decode cL_law 589 = .ok (.if_icmp .eq 5, 3) := by decide +kernel
theorem dL_law_592 : decode cL_law 592 = .ok (.iconst 0, 1) := by decide +kernel
theorem dL_law_593 : decode cL_law 593 = .ok (.ireturn, 1) := by decide +kernel
theorem dL_law_594 : decode cL_law 594 = .ok (.iload 5, 2) := by decide +kernel
theorem dL_law_596 : decode cL_law 596 = .ok (.ifCond .ne 15, 3) := by decide +kernel
theorem dL_law_599 : decode cL_law 599 = .ok (.aload_n 3, 1) := by decide +kernel
theorem dL_law_600 : decode cL_law 600 = .ok (.iconst 0, 1) := by decide +kernel
theorem dL_law_601 : decode cL_law 601 = .ok (.laload, 1) := by decide +kernel
theorem dL_law_602 : decode cL_law 602 = .ok (.iload 6, 2) := by decide +kernel
theorem dL_law_604 : decode cL_law 604 = .ok (.i2l, 1) := by decide +kernel
theorem dL_law_605 : decode cL_law 605 = .ok (.lcmp, 1) := by decide +kernel
theorem dL_law_606 : decode cL_law 606 = .ok (.ifCond .eq 5, 3) := by decide +kernel
theorem dL_law_609 : decode cL_law 609 = .ok (.iconst 0, 1) := by decide +kernel
theorem dL_law_610 : decode cL_law 610 = .ok (.ireturn, 1) := by decide +kernel
theorem dL_law_611 : decode cL_law 611 = .ok (.goto 667, 3) := by decide +kernel
theorem dL_law_614 : decode cL_law 614 = .ok (.aload_n 1, 1) := by decide +kernel
theorem dL_law_615 : decode cL_law 615 = .ok (.aload_n 0, 1) := by decide +kernel
theorem dL_law_616 : decode cL_law 616 = .ok (.iload 4, 2) := by decide +kernel
theorem dL_law_618 : decode cL_law 618 = .ok (.iconst 1, 1) := by decide +kernel
theorem dL_law_619 : decode cL_law 619 = .ok (.iadd, 1) := by decide +kernel
theorem dL_law_620 : decode cL_law 620 = .ok (.iaload, 1) := by decide +kernel
theorem dL_law_621 : decode cL_law 621 = .ok (.aload_n 3, 1) := by decide +kernel
theorem dL_law_622 : decode cL_law 622 = .ok (.invokestatic 107, 3) := by decide +kernel
theorem dL_law_625 : decode cL_law 625 = .ok (.istore 5, 2) := by decide +kernel
theorem dL_law_627 : decode cL_law 627 = .ok (.aload_n 2, 1) := by decide +kernel
theorem dL_law_628 : decode cL_law 628 = .ok (.aload_n 0, 1) := by decide +kernel
theorem dL_law_629 : decode cL_law 629 = .ok (.iload 4, 2) := by decide +kernel
theorem dL_law_631 : decode cL_law 631 = .ok (.iconst 1, 1) := by decide +kernel
theorem dL_law_632 : decode cL_law 632 = .ok (.iadd, 1) := by decide +kernel
theorem dL_law_633 : decode cL_law 633 = .ok (.iaload, 1) := by decide +kernel
theorem dL_law_634 : decode cL_law 634 = .ok (.invokevirtual 109, 3) := by decide +kernel
theorem dL_law_637 : decode cL_law 637 = .ok (.istore 6, 2) := by decide +kernel
theorem dL_law_639 : decode cL_law 639 = .ok (.aload_n 2, 1) := by decide +kernel
theorem dL_law_640 : decode cL_law 640 = .ok (.invokevirtual 82, 3) := by decide +kernel
theorem dL_law_643 : decode cL_law 643 = .ok (.iload 5, 2) := by decide +kernel
theorem dL_law_645 : decode cL_law 645 = .ok (.if_icmp .eq 5, 3) := by decide +kernel
theorem dL_law_648 : decode cL_law 648 = .ok (.iconst 0, 1) := by decide +kernel
theorem dL_law_649 : decode cL_law 649 = .ok (.ireturn, 1) := by decide +kernel
theorem dL_law_650 : decode cL_law 650 = .ok (.iload 5, 2) := by decide +kernel
theorem dL_law_652 : decode cL_law 652 = .ok (.ifCond .ne 15, 3) := by decide +kernel
theorem dL_law_655 : decode cL_law 655 = .ok (.aload_n 3, 1) := by decide +kernel
theorem dL_law_656 : decode cL_law 656 = .ok (.iconst 0, 1) := by decide +kernel
theorem dL_law_657 : decode cL_law 657 = .ok (.laload, 1) := by decide +kernel
theorem dL_law_658 : decode cL_law 658 = .ok (.iload 6, 2) := by decide +kernel
theorem dL_law_660 : decode cL_law 660 = .ok (.i2l, 1) := by decide +kernel
theorem dL_law_661 : decode cL_law 661 = .ok (.lcmp, 1) := by decide +kernel
theorem dL_law_662 : decode cL_law 662 = .ok (.ifCond .eq 5, 3) := by decide +kernel
theorem dL_law_665 : decode cL_law 665 = .ok (.iconst 0, 1) := by decide +kernel
theorem dL_law_666 : decode cL_law 666 = .ok (.ireturn, 1) := by decide +kernel
theorem dL_law_667 : decode cL_law 667 = .ok (.goto 611, 3) := by decide +kernel
theorem dL_law_670 : decode cL_law 670 = .ok (.aload_n 1, 1) := by decide +kernel
theorem dL_law_671 : decode cL_law 671 = .ok (.aload_n 0, 1) := by decide +kernel
theorem dL_law_672 : decode cL_law 672 = .ok (.iload 4, 2) := by decide +kernel
theorem dL_law_674 : decode cL_law 674 = .ok (.iconst 1, 1) := by decide +kernel
theorem dL_law_675 : decode cL_law 675 = .ok (.iadd, 1) := by decide +kernel
theorem dL_law_676 : decode cL_law 676 = .ok (.iaload, 1) := by decide +kernel
theorem dL_law_677 : decode cL_law 677 = .ok (.aload_n 0, 1) := by decide +kernel
theorem dL_law_678 : decode cL_law 678 = .ok (.iload 4, 2) := by decide +kernel
theorem dL_law_680 : decode cL_law 680 = .ok (.iconst 2, 1) := by decide +kernel
theorem dL_law_681 : decode cL_law 681 = .ok (.iadd, 1) := by decide +kernel
theorem dL_law_682 : decode cL_law 682 = .ok (.iaload, 1) := by decide +kernel
theorem dL_law_683 : decode cL_law 683 = .ok (.aload_n 0, 1) := by decide +kernel
theorem dL_law_684 : decode cL_law 684 = .ok (.iload 4, 2) := by decide +kernel
theorem dL_law_686 : decode cL_law 686 = .ok (.iconst 3, 1) := by decide +kernel
theorem dL_law_687 : decode cL_law 687 = .ok (.iadd, 1) := by decide +kernel
theorem dL_law_688 : decode cL_law 688 = .ok (.iaload, 1) := by decide +kernel
theorem dL_law_689 : decode cL_law 689 = .ok (.aload_n 0, 1) := by decide +kernel
theorem dL_law_690 : decode cL_law 690 = .ok (.iload 4, 2) := by decide +kernel
theorem dL_law_692 : decode cL_law 692 = .ok (.iconst 4, 1) := by decide +kernel
theorem dL_law_693 : decode cL_law 693 = .ok (.iadd, 1) := by decide +kernel
theorem dL_law_694 : decode cL_law 694 = .ok (.iaload, 1) := by decide +kernel
theorem dL_law_695 : decode cL_law 695 = .ok (.aload_n 3, 1) := by decide +kernel
theorem dL_law_696 : decode cL_law 696 = .ok (.invokestatic 110, 3) := by decide +kernel
theorem dL_law_699 : decode cL_law 699 = .ok (.istore 5, 2) := by decide +kernel
theorem dL_law_701 : decode cL_law 701 = .ok (.aload_n 2, 1) := by decide +kernel
theorem dL_law_702 : decode cL_law 702 = .ok (.aload_n 0, 1) := by decide +kernel
theorem dL_law_703 : decode cL_law 703 = .ok (.iload 4, 2) := by decide +kernel
theorem dL_law_705 : decode cL_law 705 = .ok (.iconst 1, 1) := by decide +kernel
theorem dL_law_706 : decode cL_law 706 = .ok (.iadd, 1) := by decide +kernel
theorem dL_law_707 : decode cL_law 707 = .ok (.iaload, 1) := by decide +kernel
theorem dL_law_708 : decode cL_law 708 = .ok (.aload_n 0, 1) := by decide +kernel
theorem dL_law_709 : decode cL_law 709 = .ok (.iload 4, 2) := by decide +kernel
theorem dL_law_711 : decode cL_law 711 = .ok (.iconst 2, 1) := by decide +kernel
theorem dL_law_712 : decode cL_law 712 = .ok (.iadd, 1) := by decide +kernel
theorem dL_law_713 : decode cL_law 713 = .ok (.iaload, 1) := by decide +kernel
theorem dL_law_714 : decode cL_law 714 = .ok (.aload_n 0, 1) := by decide +kernel
theorem dL_law_715 : decode cL_law 715 = .ok (.iload 4, 2) := by decide +kernel
theorem dL_law_717 : decode cL_law 717 = .ok (.iconst 3, 1) := by decide +kernel
theorem dL_law_718 : decode cL_law 718 = .ok (.iadd, 1) := by decide +kernel
theorem dL_law_719 : decode cL_law 719 = .ok (.iaload, 1) := by decide +kernel
theorem dL_law_720 : decode cL_law 720 = .ok (.aload_n 0, 1) := by decide +kernel
theorem dL_law_721 : decode cL_law 721 = .ok (.iload 4, 2) := by decide +kernel
theorem dL_law_723 : decode cL_law 723 = .ok (.iconst 4, 1) := by decide +kernel
theorem dL_law_724 : decode cL_law 724 = .ok (.iadd, 1) := by decide +kernel
theorem dL_law_725 : decode cL_law 725 = .ok (.iaload, 1) := by decide +kernel
theorem dL_law_726 : decode cL_law 726 = .ok (.invokevirtual 112, 3) := by decide +kernel
theorem dL_law_729 : decode cL_law 729 = .ok (.istore 6, 2) := by decide +kernel
theorem dL_law_731 : decode cL_law 731 = .ok (.aload_n 2, 1) := by decide +kernel
theorem dL_law_732 : decode cL_law 732 = .ok (.invokevirtual 82, 3) := by decide +kernel
theorem dL_law_735 : decode cL_law 735 = .ok (.iload 5, 2) := by decide +kernel
theorem dL_law_737 : decode cL_law 737 = .ok (.if_icmp .eq 5, 3) := by decide +kernel
theorem dL_law_740 : decode cL_law 740 = .ok (.iconst 0, 1) := by decide +kernel
theorem dL_law_741 : decode cL_law 741 = .ok (.ireturn, 1) := by decide +kernel
theorem dL_law_742 : decode cL_law 742 = .ok (.iload 5, 2) := by decide +kernel
theorem dL_law_744 : decode cL_law 744 = .ok (.ifCond .ne 22, 3) := by decide +kernel
theorem dL_law_747 : decode cL_law 747 = .ok (.aload_n 3, 1) := by decide +kernel
theorem dL_law_748 : decode cL_law 748 = .ok (.iconst 0, 1) := by decide +kernel
theorem dL_law_749 : decode cL_law 749 = .ok (.laload, 1) := by decide +kernel
theorem dL_law_750 : decode cL_law 750 = .ok (.iload 6, 2) := by decide +kernel
theorem dL_law_752 : decode cL_law 752 = .ok (.ifCond .eq 7, 3) := by decide +kernel
theorem dL_law_755 : decode cL_law 755 = .ok (.lconst 1, 1) := by decide +kernel
theorem dL_law_756 : decode cL_law 756 = .ok (.goto 4, 3) := by decide +kernel
theorem dL_law_759 : decode cL_law 759 = .ok (.lconst 0, 1) := by decide +kernel
theorem dL_law_760 : decode cL_law 760 = .ok (.lcmp, 1) := by decide +kernel
theorem dL_law_761 : decode cL_law 761 = .ok (.ifCond .eq 5, 3) := by decide +kernel
theorem dL_law_764 : decode cL_law 764 = .ok (.iconst 0, 1) := by decide +kernel
theorem dL_law_765 : decode cL_law 765 = .ok (.ireturn, 1) := by decide +kernel
theorem dL_law_766 : decode cL_law 766 = .ok (.goto 512, 3) := by decide +kernel
theorem dL_law_769 : decode cL_law 769 = .ok (.aload_n 1, 1) := by decide +kernel
theorem dL_law_770 : decode cL_law 770 = .ok (.aload_n 0, 1) := by decide +kernel
theorem dL_law_771 : decode cL_law 771 = .ok (.iload 4, 2) := by decide +kernel
theorem dL_law_773 : decode cL_law 773 = .ok (.iconst 1, 1) := by decide +kernel
theorem dL_law_774 : decode cL_law 774 = .ok (.iadd, 1) := by decide +kernel
theorem dL_law_775 : decode cL_law 775 = .ok (.iaload, 1) := by decide +kernel
theorem dL_law_776 : decode cL_law 776 = .ok (.aload_n 3, 1) := by decide +kernel
theorem dL_law_777 : decode cL_law 777 = .ok (.invokestatic 113, 3) := by decide +kernel
theorem dL_law_780 : decode cL_law 780 = .ok (.istore 5, 2) := by decide +kernel
theorem dL_law_782 : decode cL_law 782 = .ok (.aload_n 2, 1) := by decide +kernel
theorem dL_law_783 : decode cL_law 783 = .ok (.aload_n 0, 1) := by decide +kernel
theorem dL_law_784 : decode cL_law 784 = .ok (.iload 4, 2) := by decide +kernel
theorem dL_law_786 : decode cL_law 786 = .ok (.iconst 1, 1) := by decide +kernel
theorem dL_law_787 : decode cL_law 787 = .ok (.iadd, 1) := by decide +kernel
theorem dL_law_788 : decode cL_law 788 = .ok (.iaload, 1) := by decide +kernel
theorem dL_law_789 : decode cL_law 789 = .ok (.invokevirtual 115, 3) := by decide +kernel
theorem dL_law_792 : decode cL_law 792 = .ok (.istore 6, 2) := by decide +kernel
theorem dL_law_794 : decode cL_law 794 = .ok (.aload_n 2, 1) := by decide +kernel
theorem dL_law_795 : decode cL_law 795 = .ok (.invokevirtual 82, 3) := by decide +kernel
theorem dL_law_798 : decode cL_law 798 = .ok (.iload 5, 2) := by decide +kernel
theorem dL_law_800 : decode cL_law 800 = .ok (.if_icmp .eq 5, 3) := by decide +kernel
theorem dL_law_803 : decode cL_law 803 = .ok (.iconst 0, 1) := by decide +kernel
theorem dL_law_804 : decode cL_law 804 = .ok (.ireturn, 1) := by decide +kernel
theorem dL_law_805 : decode cL_law 805 = .ok (.iload 5, 2) := by decide +kernel
theorem dL_law_807 : decode cL_law 807 = .ok (.ifCond .ne 15, 3) := by decide +kernel
theorem dL_law_810 : decode cL_law 810 = .ok (.aload_n 3, 1) := by decide +kernel
theorem dL_law_811 : decode cL_law 811 = .ok (.iconst 0, 1) := by decide +kernel
theorem dL_law_812 : decode cL_law 812 = .ok (.laload, 1) := by decide +kernel
theorem dL_law_813 : decode cL_law 813 = .ok (.iload 6, 2) := by decide +kernel
theorem dL_law_815 : decode cL_law 815 = .ok (.i2l, 1) := by decide +kernel
theorem dL_law_816 : decode cL_law 816 = .ok (.lcmp, 1) := by decide +kernel
theorem dL_law_817 : decode cL_law 817 = .ok (.ifCond .eq 5, 3) := by decide +kernel
theorem dL_law_820 : decode cL_law 820 = .ok (.iconst 0, 1) := by decide +kernel
theorem dL_law_821 : decode cL_law 821 = .ok (.ireturn, 1) := by decide +kernel
theorem dL_law_822 : decode cL_law 822 = .ok (.goto 456, 3) := by decide +kernel
theorem dL_law_825 : decode cL_law 825 = .ok (.aload_n 1, 1) := by decide +kernel
theorem dL_law_826 : decode cL_law 826 = .ok (.aload_n 0, 1) := by decide +kernel
theorem dL_law_827 : decode cL_law 827 = .ok (.iload 4, 2) := by decide +kernel
theorem dL_law_829 : decode cL_law 829 = .ok (.iconst 1, 1) := by decide +kernel
theorem dL_law_830 : decode cL_law 830 = .ok (.iadd, 1) := by decide +kernel
theorem dL_law_831 : decode cL_law 831 = .ok (.iaload, 1) := by decide +kernel
theorem dL_law_832 : decode cL_law 832 = .ok (.aload_n 3, 1) := by decide +kernel
theorem dL_law_833 : decode cL_law 833 = .ok (.invokestatic 116, 3) := by decide +kernel
theorem dL_law_836 : decode cL_law 836 = .ok (.istore 5, 2) := by decide +kernel
theorem dL_law_838 : decode cL_law 838 = .ok (.aload_n 2, 1) := by decide +kernel
theorem dL_law_839 : decode cL_law 839 = .ok (.aload_n 0, 1) := by decide +kernel
theorem dL_law_840 : decode cL_law 840 = .ok (.iload 4, 2) := by decide +kernel
theorem dL_law_842 : decode cL_law 842 = .ok (.iconst 1, 1) := by decide +kernel
theorem dL_law_843 : decode cL_law 843 = .ok (.iadd, 1) := by decide +kernel
theorem dL_law_844 : decode cL_law 844 = .ok (.iaload, 1) := by decide +kernel
theorem dL_law_845 : decode cL_law 845 = .ok (.invokevirtual 118, 3) := by decide +kernel
theorem dL_law_848 : decode cL_law 848 = .ok (.istore 6, 2) := by decide +kernel
theorem dL_law_850 : decode cL_law 850 = .ok (.aload_n 2, 1) := by decide +kernel
theorem dL_law_851 : decode cL_law 851 = .ok (.invokevirtual 82, 3) := by decide +kernel
theorem dL_law_854 : decode cL_law 854 = .ok (.iload 5, 2) := by decide +kernel
theorem dL_law_856 : decode cL_law 856 = .ok (.if_icmp .eq 5, 3) := by decide +kernel
theorem dL_law_859 : decode cL_law 859 = .ok (.iconst 0, 1) := by decide +kernel
theorem dL_law_860 : decode cL_law 860 = .ok (.ireturn, 1) := by decide +kernel
theorem dL_law_861 : decode cL_law 861 = .ok (.iload 5, 2) := by decide +kernel
theorem dL_law_863 : decode cL_law 863 = .ok (.ifCond .ne 15, 3) := by decide +kernel
theorem dL_law_866 : decode cL_law 866 = .ok (.aload_n 3, 1) := by decide +kernel
theorem dL_law_867 : decode cL_law 867 = .ok (.iconst 0, 1) := by decide +kernel
theorem dL_law_868 : decode cL_law 868 = .ok (.laload, 1) := by decide +kernel
theorem dL_law_869 : decode cL_law 869 = .ok (.iload 6, 2) := by decide +kernel
theorem dL_law_871 : decode cL_law 871 = .ok (.i2l, 1) := by decide +kernel
theorem dL_law_872 : decode cL_law 872 = .ok (.lcmp, 1) := by decide +kernel
theorem dL_law_873 : decode cL_law 873 = .ok (.ifCond .eq 5, 3) := by decide +kernel
theorem dL_law_876 : decode cL_law 876 = .ok (.iconst 0, 1) := by decide +kernel
theorem dL_law_877 : decode cL_law 877 = .ok (.ireturn, 1) := by decide +kernel
theorem dL_law_878 : decode cL_law 878 = .ok (.goto 400, 3) := by decide +kernel
theorem dL_law_881 : decode cL_law 881 = .ok (.aload_n 1, 1) := by decide +kernel
theorem dL_law_882 : decode cL_law 882 = .ok (.aload_n 0, 1) := by decide +kernel
theorem dL_law_883 : decode cL_law 883 = .ok (.iload 4, 2) := by decide +kernel
theorem dL_law_885 : decode cL_law 885 = .ok (.iconst 1, 1) := by decide +kernel
theorem dL_law_886 : decode cL_law 886 = .ok (.iadd, 1) := by decide +kernel
theorem dL_law_887 : decode cL_law 887 = .ok (.iaload, 1) := by decide +kernel
theorem dL_law_888 : decode cL_law 888 = .ok (.aload_n 3, 1) := by decide +kernel
theorem dL_law_889 : decode cL_law 889 = .ok (.invokestatic 119, 3) := by decide +kernel
theorem dL_law_892 : decode cL_law 892 = .ok (.istore 5, 2) := by decide +kernel
theorem dL_law_894 : decode cL_law 894 = .ok (.aload_n 2, 1) := by decide +kernel
theorem dL_law_895 : decode cL_law 895 = .ok (.aload_n 0, 1) := by decide +kernel
theorem dL_law_896 : decode cL_law 896 = .ok (.iload 4, 2) := by decide +kernel
theorem dL_law_898 : decode cL_law 898 = .ok (.iconst 1, 1) := by decide +kernel
theorem dL_law_899 : decode cL_law 899 = .ok (.iadd, 1) := by decide +kernel
theorem dL_law_900 : decode cL_law 900 = .ok (.iaload, 1) := by decide +kernel
theorem dL_law_901 : decode cL_law 901 = .ok (.invokevirtual 121, 3) := by decide +kernel
theorem dL_law_904 : decode cL_law 904 = .ok (.istore 6, 2) := by decide +kernel
theorem dL_law_906 : decode cL_law 906 = .ok (.aload_n 2, 1) := by decide +kernel
theorem dL_law_907 : decode cL_law 907 = .ok (.invokevirtual 82, 3) := by decide +kernel
theorem dL_law_910 : decode cL_law 910 = .ok (.iload 5, 2) := by decide +kernel
theorem dL_law_912 : decode cL_law 912 = .ok (.if_icmp .eq 5, 3) := by decide +kernel
theorem dL_law_915 : decode cL_law 915 = .ok (.iconst 0, 1) := by decide +kernel
theorem dL_law_916 : decode cL_law 916 = .ok (.ireturn, 1) := by decide +kernel
theorem dL_law_917 : decode cL_law 917 = .ok (.iload 5, 2) := by decide +kernel
theorem dL_law_919 : decode cL_law 919 = .ok (.ifCond .ne 15, 3) := by decide +kernel
theorem dL_law_922 : decode cL_law 922 = .ok (.aload_n 3, 1) := by decide +kernel
theorem dL_law_923 : decode cL_law 923 = .ok (.iconst 0, 1) := by decide +kernel
theorem dL_law_924 : decode cL_law 924 = .ok (.laload, 1) := by decide +kernel
theorem dL_law_925 : decode cL_law 925 = .ok (.iload 6, 2) := by decide +kernel
theorem dL_law_927 : decode cL_law 927 = .ok (.i2l, 1) := by decide +kernel
theorem dL_law_928 : decode cL_law 928 = .ok (.lcmp, 1) := by decide +kernel
theorem dL_law_929 : decode cL_law 929 = .ok (.ifCond .eq 5, 3) := by decide +kernel
theorem dL_law_932 : decode cL_law 932 = .ok (.iconst 0, 1) := by decide +kernel
theorem dL_law_933 : decode cL_law 933 = .ok (.ireturn, 1) := by decide +kernel
theorem dL_law_934 : decode cL_law 934 = .ok (.goto 344, 3) := by decide +kernel
theorem dL_law_937 : decode cL_law 937 = .ok (.aload_n 1, 1) := by decide +kernel
theorem dL_law_938 : decode cL_law 938 = .ok (.invokevirtual 122, 3) := by decide +kernel
theorem dL_law_941 : decode cL_law 941 = .ok (.aload_n 2, 1) := by decide +kernel
theorem dL_law_942 : decode cL_law 942 = .ok (.invokevirtual 125, 3) := by decide +kernel
theorem dL_law_945 : decode cL_law 945 = .ok (.if_icmp .eq 333, 3) := by decide +kernel
theorem dL_law_948 : decode cL_law 948 = .ok (.iconst 0, 1) := by decide +kernel
theorem dL_law_949 : decode cL_law 949 = .ok (.ireturn, 1) := by decide +kernel
theorem dL_law_950 : decode cL_law 950 = .ok (.aload_n 1, 1) := by decide +kernel
theorem dL_law_951 : decode cL_law 951 = .ok (.aload_n 0, 1) := by decide +kernel
theorem dL_law_952 : decode cL_law 952 = .ok (.iload 4, 2) := by decide +kernel
theorem dL_law_954 : decode cL_law 954 = .ok (.iconst 1, 1) := by decide +kernel
theorem dL_law_955 : decode cL_law 955 = .ok (.iadd, 1) := by decide +kernel
theorem dL_law_956 : decode cL_law 956 = .ok (.iaload, 1) := by decide +kernel
theorem dL_law_957 : decode cL_law 957 = .ok (.aload_n 0, 1) := by decide +kernel
theorem dL_law_958 : decode cL_law 958 = .ok (.iload 4, 2) := by decide +kernel
theorem dL_law_960 : decode cL_law 960 = .ok (.iconst 2, 1) := by decide +kernel
theorem dL_law_961 : decode cL_law 961 = .ok (.iadd, 1) := by decide +kernel
theorem dL_law_962 : decode cL_law 962 = .ok (.iaload, 1) := by decide +kernel
theorem dL_law_963 : decode cL_law 963 = .ok (.aload_n 3, 1) := by decide +kernel
theorem dL_law_964 : decode cL_law 964 = .ok (.invokestatic 126, 3) := by decide +kernel
theorem dL_law_967 : decode cL_law 967 = .ok (.istore 5, 2) := by decide +kernel
theorem dL_law_969 : decode cL_law 969 = .ok (.aload_n 2, 1) := by decide +kernel
theorem dL_law_970 : decode cL_law 970 = .ok (.aload_n 0, 1) := by decide +kernel
theorem dL_law_971 : decode cL_law 971 = .ok (.iload 4, 2) := by decide +kernel
theorem dL_law_973 : decode cL_law 973 = .ok (.iconst 1, 1) := by decide +kernel
theorem dL_law_974 : decode cL_law 974 = .ok (.iadd, 1) := by decide +kernel
theorem dL_law_975 : decode cL_law 975 = .ok (.iaload, 1) := by decide +kernel
theorem dL_law_976 : decode cL_law 976 = .ok (.aload_n 0, 1) := by decide +kernel
theorem dL_law_977 : decode cL_law 977 = .ok (.iload 4, 2) := by decide +kernel
theorem dL_law_979 : decode cL_law 979 = .ok (.iconst 2, 1) := by decide +kernel
theorem dL_law_980 : decode cL_law 980 = .ok (.iadd, 1) := by decide +kernel
theorem dL_law_981 : decode cL_law 981 = .ok (.iaload, 1) := by decide +kernel
theorem dL_law_982 : decode cL_law 982 = .ok (.invokevirtual 128, 3) := by decide +kernel
theorem dL_law_985 : decode cL_law 985 = .ok (.istore 6, 2) := by decide +kernel
theorem dL_law_987 : decode cL_law 987 = .ok (.aload_n 2, 1) := by decide +kernel
theorem dL_law_988 : decode cL_law 988 = .ok (.invokevirtual 82, 3) := by decide +kernel
theorem dL_law_991 : decode cL_law 991 = .ok (.iload 5, 2) := by decide +kernel
theorem dL_law_993 : decode cL_law 993 = .ok (.if_icmp .eq 5, 3) := by decide +kernel
theorem dL_law_996 : decode cL_law 996 = .ok (.iconst 0, 1) := by decide +kernel
theorem dL_law_997 : decode cL_law 997 = .ok (.ireturn, 1) := by decide +kernel
theorem dL_law_998 : decode cL_law 998 = .ok (.iload 5, 2) := by decide +kernel
theorem dL_law_1000 : decode cL_law 1000 = .ok (.ifCond .ne 15, 3) := by decide +kernel
theorem dL_law_1003 : decode cL_law 1003 = .ok (.aload_n 3, 1) := by decide +kernel
theorem dL_law_1004 : decode cL_law 1004 = .ok (.iconst 0, 1) := by decide +kernel
theorem dL_law_1005 : decode cL_law 1005 = .ok (.laload, 1) := by decide +kernel
theorem dL_law_1006 : decode cL_law 1006 = .ok (.iload 6, 2) := by decide +kernel
theorem dL_law_1008 : decode cL_law 1008 = .ok (.i2l, 1) := by decide +kernel
theorem dL_law_1009 : decode cL_law 1009 = .ok (.lcmp, 1) := by decide +kernel
theorem dL_law_1010 : decode cL_law 1010 = .ok (.ifCond .eq 5, 3) := by decide +kernel
theorem dL_law_1013 : decode cL_law 1013 = .ok (.iconst 0, 1) := by decide +kernel
theorem dL_law_1014 : decode cL_law 1014 = .ok (.ireturn, 1) := by decide +kernel
theorem dL_law_1015 : decode cL_law 1015 = .ok (.goto 263, 3) := by decide +kernel
theorem dL_law_1018 : decode cL_law 1018 = .ok (.aload_n 1, 1) := by decide +kernel
theorem dL_law_1019 : decode cL_law 1019 = .ok (.aload_n 0, 1) := by decide +kernel
theorem dL_law_1020 : decode cL_law 1020 = .ok (.iload 4, 2) := by decide +kernel
theorem dL_law_1022 : decode cL_law 1022 = .ok (.iconst 1, 1) := by decide +kernel
theorem dL_law_1023 : decode cL_law 1023 = .ok (.iadd, 1) := by decide +kernel
theorem dL_law_1024 : decode cL_law 1024 = .ok (.iaload, 1) := by decide +kernel
theorem dL_law_1025 : decode cL_law 1025 = .ok (.aload_n 0, 1) := by decide +kernel
theorem dL_law_1026 : decode cL_law 1026 = .ok (.iload 4, 2) := by decide +kernel
theorem dL_law_1028 : decode cL_law 1028 = .ok (.iconst 2, 1) := by decide +kernel
theorem dL_law_1029 : decode cL_law 1029 = .ok (.iadd, 1) := by decide +kernel
theorem dL_law_1030 : decode cL_law 1030 = .ok (.iaload, 1) := by decide +kernel
theorem dL_law_1031 : decode cL_law 1031 = .ok (.aload_n 0, 1) := by decide +kernel
theorem dL_law_1032 : decode cL_law 1032 = .ok (.iload 4, 2) := by decide +kernel
theorem dL_law_1034 : decode cL_law 1034 = .ok (.iconst 3, 1) := by decide +kernel
theorem dL_law_1035 : decode cL_law 1035 = .ok (.iadd, 1) := by decide +kernel
theorem dL_law_1036 : decode cL_law 1036 = .ok (.iaload, 1) := by decide +kernel
theorem dL_law_1037 : decode cL_law 1037 = .ok (.aload_n 0, 1) := by decide +kernel
theorem dL_law_1038 : decode cL_law 1038 = .ok (.iload 4, 2) := by decide +kernel
theorem dL_law_1040 : decode cL_law 1040 = .ok (.iconst 4, 1) := by decide +kernel
theorem dL_law_1041 : decode cL_law 1041 = .ok (.iadd, 1) := by decide +kernel
theorem dL_law_1042 : decode cL_law 1042 = .ok (.iaload, 1) := by decide +kernel
theorem dL_law_1043 : decode cL_law 1043 = .ok (.aload_n 3, 1) := by decide +kernel
theorem dL_law_1044 : decode cL_law 1044 = .ok (.invokestatic 129, 3) := by decide +kernel
theorem dL_law_1047 : decode cL_law 1047 = .ok (.istore 5, 2) := by decide +kernel
theorem dL_law_1049 : decode cL_law 1049 = .ok (.aload_n 2, 1) := by decide +kernel
theorem dL_law_1050 : decode cL_law 1050 = .ok (.aload_n 0, 1) := by decide +kernel
theorem dL_law_1051 : decode cL_law 1051 = .ok (.iload 4, 2) := by decide +kernel
theorem dL_law_1053 : decode cL_law 1053 = .ok (.iconst 1, 1) := by decide +kernel
theorem dL_law_1054 : decode cL_law 1054 = .ok (.iadd, 1) := by decide +kernel
theorem dL_law_1055 : decode cL_law 1055 = .ok (.iaload, 1) := by decide +kernel
theorem dL_law_1056 : decode cL_law 1056 = .ok (.aload_n 0, 1) := by decide +kernel
theorem dL_law_1057 : decode cL_law 1057 = .ok (.iload 4, 2) := by decide +kernel
theorem dL_law_1059 : decode cL_law 1059 = .ok (.iconst 2, 1) := by decide +kernel
theorem dL_law_1060 : decode cL_law 1060 = .ok (.iadd, 1) := by decide +kernel
theorem dL_law_1061 : decode cL_law 1061 = .ok (.iaload, 1) := by decide +kernel
theorem dL_law_1062 : decode cL_law 1062 = .ok (.aload_n 0, 1) := by decide +kernel
theorem dL_law_1063 : decode cL_law 1063 = .ok (.iload 4, 2) := by decide +kernel
theorem dL_law_1065 : decode cL_law 1065 = .ok (.iconst 3, 1) := by decide +kernel
theorem dL_law_1066 : decode cL_law 1066 = .ok (.iadd, 1) := by decide +kernel
theorem dL_law_1067 : decode cL_law 1067 = .ok (.iaload, 1) := by decide +kernel
theorem dL_law_1068 : decode cL_law 1068 = .ok (.aload_n 0, 1) := by decide +kernel
theorem dL_law_1069 : decode cL_law 1069 = .ok (.iload 4, 2) := by decide +kernel
theorem dL_law_1071 : decode cL_law 1071 = .ok (.iconst 4, 1) := by decide +kernel
theorem dL_law_1072 : decode cL_law 1072 = .ok (.iadd, 1) := by decide +kernel
theorem dL_law_1073 : decode cL_law 1073 = .ok (.iaload, 1) := by decide +kernel
theorem dL_law_1074 : decode cL_law 1074 = .ok (.invokevirtual 131, 3) := by decide +kernel
theorem dL_law_1077 : decode cL_law 1077 = .ok (.istore 6, 2) := by decide +kernel
theorem dL_law_1079 : decode cL_law 1079 = .ok (.aload_n 2, 1) := by decide +kernel
theorem dL_law_1080 : decode cL_law 1080 = .ok (.invokevirtual 82, 3) := by decide +kernel
theorem dL_law_1083 : decode cL_law 1083 = .ok (.iload 5, 2) := by decide +kernel
theorem dL_law_1085 : decode cL_law 1085 = .ok (.if_icmp .eq 5, 3) := by decide +kernel
theorem dL_law_1088 : decode cL_law 1088 = .ok (.iconst 0, 1) := by decide +kernel
theorem dL_law_1089 : decode cL_law 1089 = .ok (.ireturn, 1) := by decide +kernel
theorem dL_law_1090 : decode cL_law 1090 = .ok (.iload 5, 2) := by decide +kernel
theorem dL_law_1092 : decode cL_law 1092 = .ok (.ifCond .ne 15, 3) := by decide +kernel
theorem dL_law_1095 : decode cL_law 1095 = .ok (.aload_n 3, 1) := by decide +kernel
theorem dL_law_1096 : decode cL_law 1096 = .ok (.iconst 0, 1) := by decide +kernel
theorem dL_law_1097 : decode cL_law 1097 = .ok (.laload, 1) := by decide +kernel
theorem dL_law_1098 : decode cL_law 1098 = .ok (.iload 6, 2) := by decide +kernel
theorem dL_law_1100 : decode cL_law 1100 = .ok (.i2l, 1) := by decide +kernel
theorem dL_law_1101 : decode cL_law 1101 = .ok (.lcmp, 1) := by decide +kernel
theorem dL_law_1102 : decode cL_law 1102 = .ok (.ifCond .eq 5, 3) := by decide +kernel
theorem dL_law_1105 : decode cL_law 1105 = .ok (.iconst 0, 1) := by decide +kernel
theorem dL_law_1106 : decode cL_law 1106 = .ok (.ireturn, 1) := by decide +kernel
theorem dL_law_1107 : decode cL_law 1107 = .ok (.goto 171, 3) := by decide +kernel
theorem dL_law_1110 : decode cL_law 1110 = .ok (.aload_n 1, 1) := by decide +kernel
theorem dL_law_1111 : decode cL_law 1111 = .ok (.aload_n 0, 1) := by decide +kernel
theorem dL_law_1112 : decode cL_law 1112 = .ok (.iload 4, 2) := by decide +kernel
theorem dL_law_1114 : decode cL_law 1114 = .ok (.iconst 1, 1) := by decide +kernel
theorem dL_law_1115 : decode cL_law 1115 = .ok (.iadd, 1) := by decide +kernel
theorem dL_law_1116 : decode cL_law 1116 = .ok (.iaload, 1) := by decide +kernel
theorem dL_law_1117 : decode cL_law 1117 = .ok (.aload_n 3, 1) := by decide +kernel
theorem dL_law_1118 : decode cL_law 1118 = .ok (.invokestatic 132, 3) := by decide +kernel
theorem dL_law_1121 : decode cL_law 1121 = .ok (.istore 5, 2) := by decide +kernel
theorem dL_law_1123 : decode cL_law 1123 = .ok (.aload_n 2, 1) := by decide +kernel
theorem dL_law_1124 : decode cL_law 1124 = .ok (.aload_n 0, 1) := by decide +kernel
theorem dL_law_1125 : decode cL_law 1125 = .ok (.iload 4, 2) := by decide +kernel
theorem dL_law_1127 : decode cL_law 1127 = .ok (.iconst 1, 1) := by decide +kernel
theorem dL_law_1128 : decode cL_law 1128 = .ok (.iadd, 1) := by decide +kernel
theorem dL_law_1129 : decode cL_law 1129 = .ok (.iaload, 1) := by decide +kernel
theorem dL_law_1130 : decode cL_law 1130 = .ok (.invokevirtual 134, 3) := by decide +kernel
theorem dL_law_1133 : decode cL_law 1133 = .ok (.istore 6, 2) := by decide +kernel
theorem dL_law_1135 : decode cL_law 1135 = .ok (.aload_n 2, 1) := by decide +kernel
theorem dL_law_1136 : decode cL_law 1136 = .ok (.invokevirtual 82, 3) := by decide +kernel
theorem dL_law_1139 : decode cL_law 1139 = .ok (.iload 5, 2) := by decide +kernel
theorem dL_law_1141 : decode cL_law 1141 = .ok (.if_icmp .eq 5, 3) := by decide +kernel
theorem dL_law_1144 : decode cL_law 1144 = .ok (.iconst 0, 1) := by decide +kernel
theorem dL_law_1145 : decode cL_law 1145 = .ok (.ireturn, 1) := by decide +kernel
theorem dL_law_1146 : decode cL_law 1146 = .ok (.iload 5, 2) := by decide +kernel
theorem dL_law_1148 : decode cL_law 1148 = .ok (.ifCond .ne 15, 3) := by decide +kernel
theorem dL_law_1151 : decode cL_law 1151 = .ok (.aload_n 3, 1) := by decide +kernel
theorem dL_law_1152 : decode cL_law 1152 = .ok (.iconst 0, 1) := by decide +kernel
theorem dL_law_1153 : decode cL_law 1153 = .ok (.laload, 1) := by decide +kernel
theorem dL_law_1154 : decode cL_law 1154 = .ok (.iload 6, 2) := by decide +kernel
theorem dL_law_1156 : decode cL_law 1156 = .ok (.i2l, 1) := by decide +kernel
theorem dL_law_1157 : decode cL_law 1157 = .ok (.lcmp, 1) := by decide +kernel
theorem dL_law_1158 : decode cL_law 1158 = .ok (.ifCond .eq 5, 3) := by decide +kernel
theorem dL_law_1161 : decode cL_law 1161 = .ok (.iconst 0, 1) := by decide +kernel
theorem dL_law_1162 : decode cL_law 1162 = .ok (.ireturn, 1) := by decide +kernel
theorem dL_law_1163 : decode cL_law 1163 = .ok (.goto 115, 3) := by decide +kernel
theorem dL_law_1166 : decode cL_law 1166 = .ok (.aload_n 1, 1) := by decide +kernel
theorem dL_law_1167 : decode cL_law 1167 = .ok (.aload_n 0, 1) := by decide +kernel
theorem dL_law_1168 : decode cL_law 1168 = .ok (.iload 4, 2) := by decide +kernel
theorem dL_law_1170 : decode cL_law 1170 = .ok (.iconst 1, 1) := by decide +kernel
theorem dL_law_1171 : decode cL_law 1171 = .ok (.iadd, 1) := by decide +kernel
theorem dL_law_1172 : decode cL_law 1172 = .ok (.iaload, 1) := by decide +kernel
theorem dL_law_1173 : decode cL_law 1173 = .ok (.aload_n 3, 1) := by decide +kernel
theorem dL_law_1174 : decode cL_law 1174 = .ok (.invokestatic 135, 3) := by decide +kernel
theorem dL_law_1177 : decode cL_law 1177 = .ok (.istore 5, 2) := by decide +kernel
theorem dL_law_1179 : decode cL_law 1179 = .ok (.aload_n 2, 1) := by decide +kernel
theorem dL_law_1180 : decode cL_law 1180 = .ok (.aload_n 0, 1) := by decide +kernel
theorem dL_law_1181 : decode cL_law 1181 = .ok (.iload 4, 2) := by decide +kernel
theorem dL_law_1183 : decode cL_law 1183 = .ok (.iconst 1, 1) := by decide +kernel
theorem dL_law_1184 : decode cL_law 1184 = .ok (.iadd, 1) := by decide +kernel
theorem dL_law_1185 : decode cL_law 1185 = .ok (.iaload, 1) := by decide +kernel
theorem dL_law_1186 : decode cL_law 1186 = .ok (.invokevirtual 137, 3) := by decide +kernel
theorem dL_law_1189 : decode cL_law 1189 = .ok (.istore 6, 2) := by decide +kernel
theorem dL_law_1191 : decode cL_law 1191 = .ok (.aload_n 2, 1) := by decide +kernel
theorem dL_law_1192 : decode cL_law 1192 = .ok (.invokevirtual 82, 3) := by decide +kernel
theorem dL_law_1195 : decode cL_law 1195 = .ok (.iload 5, 2) := by decide +kernel
theorem dL_law_1197 : decode cL_law 1197 = .ok (.if_icmp .eq 5, 3) := by decide +kernel
theorem dL_law_1200 : decode cL_law 1200 = .ok (.iconst 0, 1) := by decide +kernel
theorem dL_law_1201 : decode cL_law 1201 = .ok (.ireturn, 1) := by decide +kernel
theorem dL_law_1202 : decode cL_law 1202 = .ok (.iload 5, 2) := by decide +kernel
theorem dL_law_1204 : decode cL_law 1204 = .ok (.ifCond .ne 15, 3) := by decide +kernel
theorem dL_law_1207 : decode cL_law 1207 = .ok (.aload_n 3, 1) := by decide +kernel
theorem dL_law_1208 : decode cL_law 1208 = .ok (.iconst 0, 1) := by decide +kernel
theorem dL_law_1209 : decode cL_law 1209 = .ok (.laload, 1) := by decide +kernel
theorem dL_law_1210 : decode cL_law 1210 = .ok (.iload 6, 2) := by decide +kernel
theorem dL_law_1212 : decode cL_law 1212 = .ok (.i2l, 1) := by decide +kernel
theorem dL_law_1213 : decode cL_law 1213 = .ok (.lcmp, 1) := by decide +kernel
theorem dL_law_1214 : decode cL_law 1214 = .ok (.ifCond .eq 5, 3) := by decide +kernel
theorem dL_law_1217 : decode cL_law 1217 = .ok (.iconst 0, 1) := by decide +kernel
theorem dL_law_1218 : decode cL_law 1218 = .ok (.ireturn, 1) := by decide +kernel
theorem dL_law_1219 : decode cL_law 1219 = .ok (.goto 59, 3) := by decide +kernel
theorem dL_law_1222 : decode cL_law 1222 = .ok (.aload_n 1, 1) := by decide +kernel
theorem dL_law_1223 : decode cL_law 1223 = .ok (.aload_n 0, 1) := by decide +kernel
theorem dL_law_1224 : decode cL_law 1224 = .ok (.iload 4, 2) := by decide +kernel
theorem dL_law_1226 : decode cL_law 1226 = .ok (.iconst 1, 1) := by decide +kernel
theorem dL_law_1227 : decode cL_law 1227 = .ok (.iadd, 1) := by decide +kernel
theorem dL_law_1228 : decode cL_law 1228 = .ok (.iaload, 1) := by decide +kernel
theorem dL_law_1229 : decode cL_law 1229 = .ok (.aload_n 3, 1) := by decide +kernel
theorem dL_law_1230 : decode cL_law 1230 = .ok (.invokestatic 138, 3) := by decide +kernel
theorem dL_law_1233 : decode cL_law 1233 = .ok (.istore 5, 2) := by decide +kernel
theorem dL_law_1235 : decode cL_law 1235 = .ok (.aload_n 2, 1) := by decide +kernel
theorem dL_law_1236 : decode cL_law 1236 = .ok (.aload_n 0, 1) := by decide +kernel
theorem dL_law_1237 : decode cL_law 1237 = .ok (.iload 4, 2) := by decide +kernel
theorem dL_law_1239 : decode cL_law 1239 = .ok (.iconst 1, 1) := by decide +kernel
theorem dL_law_1240 : decode cL_law 1240 = .ok (.iadd, 1) := by decide +kernel
theorem dL_law_1241 : decode cL_law 1241 = .ok (.iaload, 1) := by decide +kernel
theorem dL_law_1242 : decode cL_law 1242 = .ok (.invokevirtual 140, 3) := by decide +kernel
theorem dL_law_1245 : decode cL_law 1245 = .ok (.istore 6, 2) := by decide +kernel
theorem dL_law_1247 : decode cL_law 1247 = .ok (.aload_n 2, 1) := by decide +kernel
theorem dL_law_1248 : decode cL_law 1248 = .ok (.invokevirtual 82, 3) := by decide +kernel
theorem dL_law_1251 : decode cL_law 1251 = .ok (.iload 5, 2) := by decide +kernel
theorem dL_law_1253 : decode cL_law 1253 = .ok (.if_icmp .eq 5, 3) := by decide +kernel
theorem dL_law_1256 : decode cL_law 1256 = .ok (.iconst 0, 1) := by decide +kernel
theorem dL_law_1257 : decode cL_law 1257 = .ok (.ireturn, 1) := by decide +kernel
theorem dL_law_1258 : decode cL_law 1258 = .ok (.iload 5, 2) := by decide +kernel
theorem dL_law_1260 : decode cL_law 1260 = .ok (.ifCond .ne 15, 3) := by decide +kernel
theorem dL_law_1263 : decode cL_law 1263 = .ok (.aload_n 3, 1) := by decide +kernel
theorem dL_law_1264 : decode cL_law 1264 = .ok (.iconst 0, 1) := by decide +kernel
theorem dL_law_1265 : decode cL_law 1265 = .ok (.laload, 1) := by decide +kernel
theorem dL_law_1266 : decode cL_law 1266 = .ok (.iload 6, 2) := by decide +kernel
theorem dL_law_1268 : decode cL_law 1268 = .ok (.i2l, 1) := by decide +kernel
theorem dL_law_1269 : decode cL_law 1269 = .ok (.lcmp, 1) := by decide +kernel
theorem dL_law_1270 : decode cL_law 1270 = .ok (.ifCond .eq 5, 3) := by decide +kernel
theorem dL_law_1273 : decode cL_law 1273 = .ok (.iconst 0, 1) := by decide +kernel
theorem dL_law_1274 : decode cL_law 1274 = .ok (.ireturn, 1) := by decide +kernel
theorem dL_law_1275 : decode cL_law 1275 = .ok (.goto 3, 3) := by decide +kernel
theorem dL_law_1278 : decode cL_law 1278 = .ok (.iinc 4 5, 3) := by decide +kernel
theorem dL_law_1281 : decode cL_law 1281 = .ok (.goto (-1258), 3) := by decide +kernel
theorem dL_law_1284 : decode cL_law 1284 = .ok (.iconst 1, 1) := by decide +kernel
theorem dL_law_1285 : decode cL_law 1285 = .ok (.ireturn, 1) := by decide +kernel
abbrev vwCl : List vw_C := [(RX0, TX0, 1), (RX1, TX1, 3), (RX2, TX2, 1), (RX3, TX3, 8), (RX4, TX4, 1), (RX5, TX5, 1), (RX6, TX6, 10), (RX7, TX7, 12)]
/-- the objects of ConceptMarker$Chains, kind 0: what each holds, by its address -/
structure wK_O_Chains where
  f_implied : Nat → Option Nat
/-- the objects of ConceptMarker$ConceptMap, kind 1: what each holds, by its address -/
structure wK_O_ConceptMap where
  f_words : Nat → Option Nat
  f_own : Nat → Option Nat
  f_size : Nat → Int32
/-- the objects of ConceptMarker$LinkSet, kind 2: what each holds, by its address -/
structure wK_O_LinkSet where
  f_kinds : Nat → Option Nat
/-- the objects of ConceptMarker$Matching, kind 3: what each holds, by its address -/
structure wK_O_Matching where
  f_alike : Nat → Option Nat
  f_pairPoints : Nat → Option Nat
  f_hopes : Nat → Option Nat
  f_tried : Nat → Option Nat
  f_best : Nat → Option Nat
  f_pupilSize : Nat → Int32
  f_modelSize : Nat → Int32
  f_bestPoints : Nat → Int32
/-- the objects of ConceptMarker$Row, kind 4: what each holds, by its address -/
structure wK_O_Row where
  f_numbers : Nat → Option Nat
/-- the objects of ConceptMarker$Thesaurus, kind 5: what each holds, by its address -/
structure wK_O_Thesaurus where
  f_groups : Nat → Option Nat
/-- the objects of ConceptMarker, kind 6: what each holds, by its address -/
structure wK_O_ConceptMarker where
  f_pupil : Nat → Option Nat
  f_maps : Nat → Option Nat
  f_thesaurus : Nat → Option Nat
  f_chains : Nat → Option Nat
  f_holding : Nat → Option Nat
  f_trialLinks : Nat → Option Nat
  f_trialHolding : Nat → Option Nat
  f_matching : Nat → Option Nat
  f_bestLink : Nat → Int32
  f_bestGain : Nat → Int32
/-- the objects of ConceptMarkerModel, kind 7: what each holds, by its address -/
structure wK_O_ConceptMarkerModel where
  f_ideas : Nat → Option Nat
  f_word : Nat → Option Nat
  f_has : Nat → Option Nat
  f_holds : Nat → Option Nat
  f_group : Nat → Option Nat
  f_chain : Nat → Option Nat
  f_match : Nat → Option Nat
  f_best : Nat → Option Nat
  f_back : Nat → Option Nat
  f_hinted : Nat → Int32
  f_gained : Nat → Int32
  f_thrown : Nat → Int32
/-- the arrays of kind 8: what each holds, by its address -/
structure wK_R_I where
  len : Nat → Nat
  row : Nat → Nat → Int32
/-- the arrays of kind 9: what each holds, by its address -/
structure wK_R_Z where
  len : Nat → Nat
  row : Nat → Nat → Int32
/-- the arrays of kind 10: what each holds, by its address -/
structure wK_R_ConceptMap where
  len : Nat → Nat
  row : Nat → Nat → Option Nat
/-- the pool: the addresses, the kind of each, and the kinds -/
structure wPS where
  L : List Nat
  K : Nat → Nat
  O_Chains : wK_O_Chains
  O_ConceptMap : wK_O_ConceptMap
  O_LinkSet : wK_O_LinkSet
  O_Matching : wK_O_Matching
  O_Row : wK_O_Row
  O_Thesaurus : wK_O_Thesaurus
  O_ConceptMarker : wK_O_ConceptMarker
  O_ConceptMarkerModel : wK_O_ConceptMarkerModel
  R_I : wK_R_I
  R_Z : wK_R_Z
  R_ConceptMap : wK_R_ConceptMap
/-- the empty pool -/
abbrev wP0 : wPS := { L := [], K := (fun _ => 0), O_Chains := { f_implied := (fun _ => none) }, O_ConceptMap := { f_words := (fun _ => none), f_own := (fun _ => none), f_size := (fun _ => 0) }, O_LinkSet := { f_kinds := (fun _ => none) }, O_Matching := { f_alike := (fun _ => none), f_pairPoints := (fun _ => none), f_hopes := (fun _ => none), f_tried := (fun _ => none), f_best := (fun _ => none), f_pupilSize := (fun _ => 0), f_modelSize := (fun _ => 0), f_bestPoints := (fun _ => 0) }, O_Row := { f_numbers := (fun _ => none) }, O_Thesaurus := { f_groups := (fun _ => none) }, O_ConceptMarker := { f_pupil := (fun _ => none), f_maps := (fun _ => none), f_thesaurus := (fun _ => none), f_chains := (fun _ => none), f_holding := (fun _ => none), f_trialLinks := (fun _ => none), f_trialHolding := (fun _ => none), f_matching := (fun _ => none), f_bestLink := (fun _ => 0), f_bestGain := (fun _ => 0) }, O_ConceptMarkerModel := { f_ideas := (fun _ => none), f_word := (fun _ => none), f_has := (fun _ => none), f_holds := (fun _ => none), f_group := (fun _ => none), f_chain := (fun _ => none), f_match := (fun _ => none), f_best := (fun _ => none), f_back := (fun _ => none), f_hinted := (fun _ => 0), f_gained := (fun _ => 0), f_thrown := (fun _ => 0) }, R_I := { len := (fun _ => 0), row := (fun _ _ => 0) }, R_Z := { len := (fun _ => 0), row := (fun _ _ => 0) }, R_ConceptMap := { len := (fun _ => 0), row := (fun _ _ => none) } }
/-- the pool's rows by their kinds -/
abbrev wPF (cyI : ClassId) (cyZ : ClassId) (cyO137d0 : ClassId) (S : wPS) : Nat → va_E := fun a => if S.K a = 0 then .inr (0, [va_rf (S.O_Chains.f_implied a)]) else if S.K a = 1 then .inr (1, [va_rf (S.O_ConceptMap.f_words a), va_rf (S.O_ConceptMap.f_own a), .int (S.O_ConceptMap.f_size a)]) else if S.K a = 2 then .inr (2, [va_rf (S.O_LinkSet.f_kinds a)]) else if S.K a = 3 then .inr (3, [va_rf (S.O_Matching.f_alike a), va_rf (S.O_Matching.f_pairPoints a), va_rf (S.O_Matching.f_hopes a), va_rf (S.O_Matching.f_tried a), va_rf (S.O_Matching.f_best a), .int (S.O_Matching.f_pupilSize a), .int (S.O_Matching.f_modelSize a), .int (S.O_Matching.f_bestPoints a)]) else if S.K a = 4 then .inr (4, [va_rf (S.O_Row.f_numbers a)]) else if S.K a = 5 then .inr (5, [va_rf (S.O_Thesaurus.f_groups a)]) else if S.K a = 6 then .inr (6, [va_rf (S.O_ConceptMarker.f_pupil a), va_rf (S.O_ConceptMarker.f_maps a), va_rf (S.O_ConceptMarker.f_thesaurus a), va_rf (S.O_ConceptMarker.f_chains a), va_rf (S.O_ConceptMarker.f_holding a), va_rf (S.O_ConceptMarker.f_trialLinks a), va_rf (S.O_ConceptMarker.f_trialHolding a), va_rf (S.O_ConceptMarker.f_matching a), .int (S.O_ConceptMarker.f_bestLink a), .int (S.O_ConceptMarker.f_bestGain a)]) else if S.K a = 7 then .inr (7, [va_rf (S.O_ConceptMarkerModel.f_ideas a), va_rf (S.O_ConceptMarkerModel.f_word a), va_rf (S.O_ConceptMarkerModel.f_has a), va_rf (S.O_ConceptMarkerModel.f_holds a), va_rf (S.O_ConceptMarkerModel.f_group a), va_rf (S.O_ConceptMarkerModel.f_chain a), va_rf (S.O_ConceptMarkerModel.f_match a), va_rf (S.O_ConceptMarkerModel.f_best a), va_rf (S.O_ConceptMarkerModel.f_back a), .int (S.O_ConceptMarkerModel.f_hinted a), .int (S.O_ConceptMarkerModel.f_gained a), .int (S.O_ConceptMarkerModel.f_thrown a)]) else if S.K a = 8 then .inl (cyI, S.R_I.len a, .inl (S.R_I.row a)) else if S.K a = 9 then .inl (cyZ, S.R_Z.len a, .inl (S.R_Z.row a)) else .inl (cyO137d0, S.R_ConceptMap.len a, .inr (.inr (.inr (.inr (S.R_ConceptMap.row a)))))
theorem wAt_O_Chains (cyI : ClassId) (cyZ : ClassId) (cyO137d0 : ClassId) (S : wPS) {a : Nat} (h : S.K a = 0) : wPF cyI cyZ cyO137d0 S a = .inr (0, [va_rf (S.O_Chains.f_implied a)]) := by simp [wPF, h]
theorem wGt_O_Chains (cyI : ClassId) (cyZ : ClassId) (cyO137d0 : ClassId) (X : va_W) (S : wPS) {a : Nat} (hL : a ∈ S.L) (h : S.K a = 0) : ∃ k : Nat, (X ++ va_pl S.L (wPF cyI cyZ cyO137d0 S))[k]? = some (a, wPF cyI cyZ cyO137d0 S a) ∧ (X ++ va_pl S.L (wPF cyI cyZ cyO137d0 S))[k]? = some (a, .inr (0, [va_rf (S.O_Chains.f_implied a)])) := by
  obtain ⟨k, hk⟩ := va_pl_get (X := X) (f := wPF cyI cyZ cyO137d0 S) hL
  exact ⟨k, hk, hk.trans (congrArg (fun e => some (a, e)) (wAt_O_Chains cyI cyZ cyO137d0 S h))⟩
theorem wSt_O_Chains_f_implied (cyI : ClassId) (cyZ : ClassId) (cyO137d0 : ClassId) (S : wPS) {a : Nat} (h : S.K a = 0) (v : Option Nat) (b : Nat) : va_up (wPF cyI cyZ cyO137d0 S) a (.inr (0, [va_rf v])) b = wPF cyI cyZ cyO137d0 { S with O_Chains := { f_implied := va_up S.O_Chains.f_implied a v } } b := by by_cases hb : b = a <;> first | (simp only [wPF, va_up_ne _ _ hb]; done) | (simp only [wPF, va_up, if_neg hb]; done) | simp [wPF, va_re, va_up, va_rf, hb, h]
theorem wPu_O_Chains_f_implied (cyI : ClassId) (cyZ : ClassId) (cyO137d0 : ClassId) (X : va_W) (S : wPS) {A : Nat → Prop} {a k : Nat} (hD : va_D A (X ++ va_pl S.L (wPF cyI cyZ cyO137d0 S))) (hL : a ∈ S.L) (h : S.K a = 0) (hk : (X ++ va_pl S.L (wPF cyI cyZ cyO137d0 S))[k]? = some (a, wPF cyI cyZ cyO137d0 S a)) (v : Option Nat) : (X ++ va_pl S.L (wPF cyI cyZ cyO137d0 S)).set k (a, .inr (0, [va_rf v])) = X ++ va_pl S.L (wPF cyI cyZ cyO137d0 { S with O_Chains := { f_implied := va_up S.O_Chains.f_implied a v } }) := by
  rw [va_pl_set hD hL hk]
  exact congrArg (fun l => X ++ l) (va_pl_congr (wSt_O_Chains_f_implied cyI cyZ cyO137d0 S h v))
theorem wNw_O_Chains (cyI : ClassId) (cyZ : ClassId) (cyO137d0 : ClassId) (S : wPS) (a b : Nat) : va_up (wPF cyI cyZ cyO137d0 S) a (.inr (0, [.null])) b = wPF cyI cyZ cyO137d0 { S with L := S.L ++ [a], K := va_up S.K a 0, O_Chains := { f_implied := va_up S.O_Chains.f_implied a none } } b := by by_cases hb : b = a <;> first | (simp only [wPF, va_up_ne _ _ hb]; done) | (simp only [wPF, va_up, if_neg hb]; done) | simp [wPF, va_re, va_up, va_rf, hb]
theorem wPn_O_Chains (cyI : ClassId) (cyZ : ClassId) (cyO137d0 : ClassId) (X : va_W) (S : wPS) {a : Nat} (ha : a ∉ S.L) : (X ++ va_pl S.L (wPF cyI cyZ cyO137d0 S)) ++ [(a, .inr (0, [.null]))] = X ++ va_pl (S.L ++ [a]) (wPF cyI cyZ cyO137d0 { S with L := S.L ++ [a], K := va_up S.K a 0, O_Chains := { f_implied := va_up S.O_Chains.f_implied a none } }) := by
  rw [List.append_assoc, va_pl_push ha]
  exact congrArg (fun l => X ++ l) (va_pl_congr (wNw_O_Chains cyI cyZ cyO137d0 S a))
theorem wAt_O_ConceptMap (cyI : ClassId) (cyZ : ClassId) (cyO137d0 : ClassId) (S : wPS) {a : Nat} (h : S.K a = 1) : wPF cyI cyZ cyO137d0 S a = .inr (1, [va_rf (S.O_ConceptMap.f_words a), va_rf (S.O_ConceptMap.f_own a), .int (S.O_ConceptMap.f_size a)]) := by simp [wPF, h]
theorem wGt_O_ConceptMap (cyI : ClassId) (cyZ : ClassId) (cyO137d0 : ClassId) (X : va_W) (S : wPS) {a : Nat} (hL : a ∈ S.L) (h : S.K a = 1) : ∃ k : Nat, (X ++ va_pl S.L (wPF cyI cyZ cyO137d0 S))[k]? = some (a, wPF cyI cyZ cyO137d0 S a) ∧ (X ++ va_pl S.L (wPF cyI cyZ cyO137d0 S))[k]? = some (a, .inr (1, [va_rf (S.O_ConceptMap.f_words a), va_rf (S.O_ConceptMap.f_own a), .int (S.O_ConceptMap.f_size a)])) := by
  obtain ⟨k, hk⟩ := va_pl_get (X := X) (f := wPF cyI cyZ cyO137d0 S) hL
  exact ⟨k, hk, hk.trans (congrArg (fun e => some (a, e)) (wAt_O_ConceptMap cyI cyZ cyO137d0 S h))⟩
theorem wSt_O_ConceptMap_f_words (cyI : ClassId) (cyZ : ClassId) (cyO137d0 : ClassId) (S : wPS) {a : Nat} (h : S.K a = 1) (v : Option Nat) (b : Nat) : va_up (wPF cyI cyZ cyO137d0 S) a (.inr (1, [va_rf v, va_rf (S.O_ConceptMap.f_own a), .int (S.O_ConceptMap.f_size a)])) b = wPF cyI cyZ cyO137d0 { S with O_ConceptMap := { S.O_ConceptMap with f_words := va_up S.O_ConceptMap.f_words a v } } b := by by_cases hb : b = a <;> first | (simp only [wPF, va_up_ne _ _ hb]; done) | (simp only [wPF, va_up, if_neg hb]; done) | simp [wPF, va_re, va_up, va_rf, hb, h]
theorem wPu_O_ConceptMap_f_words (cyI : ClassId) (cyZ : ClassId) (cyO137d0 : ClassId) (X : va_W) (S : wPS) {A : Nat → Prop} {a k : Nat} (hD : va_D A (X ++ va_pl S.L (wPF cyI cyZ cyO137d0 S))) (hL : a ∈ S.L) (h : S.K a = 1) (hk : (X ++ va_pl S.L (wPF cyI cyZ cyO137d0 S))[k]? = some (a, wPF cyI cyZ cyO137d0 S a)) (v : Option Nat) : (X ++ va_pl S.L (wPF cyI cyZ cyO137d0 S)).set k (a, .inr (1, [va_rf v, va_rf (S.O_ConceptMap.f_own a), .int (S.O_ConceptMap.f_size a)])) = X ++ va_pl S.L (wPF cyI cyZ cyO137d0 { S with O_ConceptMap := { S.O_ConceptMap with f_words := va_up S.O_ConceptMap.f_words a v } }) := by
  rw [va_pl_set hD hL hk]
  exact congrArg (fun l => X ++ l) (va_pl_congr (wSt_O_ConceptMap_f_words cyI cyZ cyO137d0 S h v))
theorem wSt_O_ConceptMap_f_own (cyI : ClassId) (cyZ : ClassId) (cyO137d0 : ClassId) (S : wPS) {a : Nat} (h : S.K a = 1) (v : Option Nat) (b : Nat) : va_up (wPF cyI cyZ cyO137d0 S) a (.inr (1, [va_rf (S.O_ConceptMap.f_words a), va_rf v, .int (S.O_ConceptMap.f_size a)])) b = wPF cyI cyZ cyO137d0 { S with O_ConceptMap := { S.O_ConceptMap with f_own := va_up S.O_ConceptMap.f_own a v } } b := by by_cases hb : b = a <;> first | (simp only [wPF, va_up_ne _ _ hb]; done) | (simp only [wPF, va_up, if_neg hb]; done) | simp [wPF, va_re, va_up, va_rf, hb, h]
theorem wPu_O_ConceptMap_f_own (cyI : ClassId) (cyZ : ClassId) (cyO137d0 : ClassId) (X : va_W) (S : wPS) {A : Nat → Prop} {a k : Nat} (hD : va_D A (X ++ va_pl S.L (wPF cyI cyZ cyO137d0 S))) (hL : a ∈ S.L) (h : S.K a = 1) (hk : (X ++ va_pl S.L (wPF cyI cyZ cyO137d0 S))[k]? = some (a, wPF cyI cyZ cyO137d0 S a)) (v : Option Nat) : (X ++ va_pl S.L (wPF cyI cyZ cyO137d0 S)).set k (a, .inr (1, [va_rf (S.O_ConceptMap.f_words a), va_rf v, .int (S.O_ConceptMap.f_size a)])) = X ++ va_pl S.L (wPF cyI cyZ cyO137d0 { S with O_ConceptMap := { S.O_ConceptMap with f_own := va_up S.O_ConceptMap.f_own a v } }) := by
  rw [va_pl_set hD hL hk]
  exact congrArg (fun l => X ++ l) (va_pl_congr (wSt_O_ConceptMap_f_own cyI cyZ cyO137d0 S h v))
theorem wSt_O_ConceptMap_f_size (cyI : ClassId) (cyZ : ClassId) (cyO137d0 : ClassId) (S : wPS) {a : Nat} (h : S.K a = 1) (v : Int32) (b : Nat) : va_up (wPF cyI cyZ cyO137d0 S) a (.inr (1, [va_rf (S.O_ConceptMap.f_words a), va_rf (S.O_ConceptMap.f_own a), .int v])) b = wPF cyI cyZ cyO137d0 { S with O_ConceptMap := { S.O_ConceptMap with f_size := va_up S.O_ConceptMap.f_size a v } } b := by by_cases hb : b = a <;> first | (simp only [wPF, va_up_ne _ _ hb]; done) | (simp only [wPF, va_up, if_neg hb]; done) | simp [wPF, va_re, va_up, va_rf, hb, h]
theorem wPu_O_ConceptMap_f_size (cyI : ClassId) (cyZ : ClassId) (cyO137d0 : ClassId) (X : va_W) (S : wPS) {A : Nat → Prop} {a k : Nat} (hD : va_D A (X ++ va_pl S.L (wPF cyI cyZ cyO137d0 S))) (hL : a ∈ S.L) (h : S.K a = 1) (hk : (X ++ va_pl S.L (wPF cyI cyZ cyO137d0 S))[k]? = some (a, wPF cyI cyZ cyO137d0 S a)) (v : Int32) : (X ++ va_pl S.L (wPF cyI cyZ cyO137d0 S)).set k (a, .inr (1, [va_rf (S.O_ConceptMap.f_words a), va_rf (S.O_ConceptMap.f_own a), .int v])) = X ++ va_pl S.L (wPF cyI cyZ cyO137d0 { S with O_ConceptMap := { S.O_ConceptMap with f_size := va_up S.O_ConceptMap.f_size a v } }) := by
  rw [va_pl_set hD hL hk]
  exact congrArg (fun l => X ++ l) (va_pl_congr (wSt_O_ConceptMap_f_size cyI cyZ cyO137d0 S h v))
theorem wNw_O_ConceptMap (cyI : ClassId) (cyZ : ClassId) (cyO137d0 : ClassId) (S : wPS) (a b : Nat) : va_up (wPF cyI cyZ cyO137d0 S) a (.inr (1, [.null, .null, .int 0])) b = wPF cyI cyZ cyO137d0 { S with L := S.L ++ [a], K := va_up S.K a 1, O_ConceptMap := { f_words := va_up S.O_ConceptMap.f_words a none, f_own := va_up S.O_ConceptMap.f_own a none, f_size := va_up S.O_ConceptMap.f_size a 0 } } b := by by_cases hb : b = a <;> first | (simp only [wPF, va_up_ne _ _ hb]; done) | (simp only [wPF, va_up, if_neg hb]; done) | simp [wPF, va_re, va_up, va_rf, hb]
theorem wPn_O_ConceptMap (cyI : ClassId) (cyZ : ClassId) (cyO137d0 : ClassId) (X : va_W) (S : wPS) {a : Nat} (ha : a ∉ S.L) : (X ++ va_pl S.L (wPF cyI cyZ cyO137d0 S)) ++ [(a, .inr (1, [.null, .null, .int 0]))] = X ++ va_pl (S.L ++ [a]) (wPF cyI cyZ cyO137d0 { S with L := S.L ++ [a], K := va_up S.K a 1, O_ConceptMap := { f_words := va_up S.O_ConceptMap.f_words a none, f_own := va_up S.O_ConceptMap.f_own a none, f_size := va_up S.O_ConceptMap.f_size a 0 } }) := by
  rw [List.append_assoc, va_pl_push ha]
  exact congrArg (fun l => X ++ l) (va_pl_congr (wNw_O_ConceptMap cyI cyZ cyO137d0 S a))
theorem wAt_O_LinkSet (cyI : ClassId) (cyZ : ClassId) (cyO137d0 : ClassId) (S : wPS) {a : Nat} (h : S.K a = 2) : wPF cyI cyZ cyO137d0 S a = .inr (2, [va_rf (S.O_LinkSet.f_kinds a)]) := by simp [wPF, h]
theorem wGt_O_LinkSet (cyI : ClassId) (cyZ : ClassId) (cyO137d0 : ClassId) (X : va_W) (S : wPS) {a : Nat} (hL : a ∈ S.L) (h : S.K a = 2) : ∃ k : Nat, (X ++ va_pl S.L (wPF cyI cyZ cyO137d0 S))[k]? = some (a, wPF cyI cyZ cyO137d0 S a) ∧ (X ++ va_pl S.L (wPF cyI cyZ cyO137d0 S))[k]? = some (a, .inr (2, [va_rf (S.O_LinkSet.f_kinds a)])) := by
  obtain ⟨k, hk⟩ := va_pl_get (X := X) (f := wPF cyI cyZ cyO137d0 S) hL
  exact ⟨k, hk, hk.trans (congrArg (fun e => some (a, e)) (wAt_O_LinkSet cyI cyZ cyO137d0 S h))⟩
theorem wSt_O_LinkSet_f_kinds (cyI : ClassId) (cyZ : ClassId) (cyO137d0 : ClassId) (S : wPS) {a : Nat} (h : S.K a = 2) (v : Option Nat) (b : Nat) : va_up (wPF cyI cyZ cyO137d0 S) a (.inr (2, [va_rf v])) b = wPF cyI cyZ cyO137d0 { S with O_LinkSet := { f_kinds := va_up S.O_LinkSet.f_kinds a v } } b := by by_cases hb : b = a <;> first | (simp only [wPF, va_up_ne _ _ hb]; done) | (simp only [wPF, va_up, if_neg hb]; done) | simp [wPF, va_re, va_up, va_rf, hb, h]
theorem wPu_O_LinkSet_f_kinds (cyI : ClassId) (cyZ : ClassId) (cyO137d0 : ClassId) (X : va_W) (S : wPS) {A : Nat → Prop} {a k : Nat} (hD : va_D A (X ++ va_pl S.L (wPF cyI cyZ cyO137d0 S))) (hL : a ∈ S.L) (h : S.K a = 2) (hk : (X ++ va_pl S.L (wPF cyI cyZ cyO137d0 S))[k]? = some (a, wPF cyI cyZ cyO137d0 S a)) (v : Option Nat) : (X ++ va_pl S.L (wPF cyI cyZ cyO137d0 S)).set k (a, .inr (2, [va_rf v])) = X ++ va_pl S.L (wPF cyI cyZ cyO137d0 { S with O_LinkSet := { f_kinds := va_up S.O_LinkSet.f_kinds a v } }) := by
  rw [va_pl_set hD hL hk]
  exact congrArg (fun l => X ++ l) (va_pl_congr (wSt_O_LinkSet_f_kinds cyI cyZ cyO137d0 S h v))
theorem wNw_O_LinkSet (cyI : ClassId) (cyZ : ClassId) (cyO137d0 : ClassId) (S : wPS) (a b : Nat) : va_up (wPF cyI cyZ cyO137d0 S) a (.inr (2, [.null])) b = wPF cyI cyZ cyO137d0 { S with L := S.L ++ [a], K := va_up S.K a 2, O_LinkSet := { f_kinds := va_up S.O_LinkSet.f_kinds a none } } b := by by_cases hb : b = a <;> first | (simp only [wPF, va_up_ne _ _ hb]; done) | (simp only [wPF, va_up, if_neg hb]; done) | simp [wPF, va_re, va_up, va_rf, hb]
theorem wPn_O_LinkSet (cyI : ClassId) (cyZ : ClassId) (cyO137d0 : ClassId) (X : va_W) (S : wPS) {a : Nat} (ha : a ∉ S.L) : (X ++ va_pl S.L (wPF cyI cyZ cyO137d0 S)) ++ [(a, .inr (2, [.null]))] = X ++ va_pl (S.L ++ [a]) (wPF cyI cyZ cyO137d0 { S with L := S.L ++ [a], K := va_up S.K a 2, O_LinkSet := { f_kinds := va_up S.O_LinkSet.f_kinds a none } }) := by
  rw [List.append_assoc, va_pl_push ha]
  exact congrArg (fun l => X ++ l) (va_pl_congr (wNw_O_LinkSet cyI cyZ cyO137d0 S a))
theorem wAt_O_Matching (cyI : ClassId) (cyZ : ClassId) (cyO137d0 : ClassId) (S : wPS) {a : Nat} (h : S.K a = 3) : wPF cyI cyZ cyO137d0 S a = .inr (3, [va_rf (S.O_Matching.f_alike a), va_rf (S.O_Matching.f_pairPoints a), va_rf (S.O_Matching.f_hopes a), va_rf (S.O_Matching.f_tried a), va_rf (S.O_Matching.f_best a), .int (S.O_Matching.f_pupilSize a), .int (S.O_Matching.f_modelSize a), .int (S.O_Matching.f_bestPoints a)]) := by simp [wPF, h]
theorem wGt_O_Matching (cyI : ClassId) (cyZ : ClassId) (cyO137d0 : ClassId) (X : va_W) (S : wPS) {a : Nat} (hL : a ∈ S.L) (h : S.K a = 3) : ∃ k : Nat, (X ++ va_pl S.L (wPF cyI cyZ cyO137d0 S))[k]? = some (a, wPF cyI cyZ cyO137d0 S a) ∧ (X ++ va_pl S.L (wPF cyI cyZ cyO137d0 S))[k]? = some (a, .inr (3, [va_rf (S.O_Matching.f_alike a), va_rf (S.O_Matching.f_pairPoints a), va_rf (S.O_Matching.f_hopes a), va_rf (S.O_Matching.f_tried a), va_rf (S.O_Matching.f_best a), .int (S.O_Matching.f_pupilSize a), .int (S.O_Matching.f_modelSize a), .int (S.O_Matching.f_bestPoints a)])) := by
  obtain ⟨k, hk⟩ := va_pl_get (X := X) (f := wPF cyI cyZ cyO137d0 S) hL
  exact ⟨k, hk, hk.trans (congrArg (fun e => some (a, e)) (wAt_O_Matching cyI cyZ cyO137d0 S h))⟩
theorem wSt_O_Matching_f_alike (cyI : ClassId) (cyZ : ClassId) (cyO137d0 : ClassId) (S : wPS) {a : Nat} (h : S.K a = 3) (v : Option Nat) (b : Nat) : va_up (wPF cyI cyZ cyO137d0 S) a (.inr (3, [va_rf v, va_rf (S.O_Matching.f_pairPoints a), va_rf (S.O_Matching.f_hopes a), va_rf (S.O_Matching.f_tried a), va_rf (S.O_Matching.f_best a), .int (S.O_Matching.f_pupilSize a), .int (S.O_Matching.f_modelSize a), .int (S.O_Matching.f_bestPoints a)])) b = wPF cyI cyZ cyO137d0 { S with O_Matching := { S.O_Matching with f_alike := va_up S.O_Matching.f_alike a v } } b := by by_cases hb : b = a <;> first | (simp only [wPF, va_up_ne _ _ hb]; done) | (simp only [wPF, va_up, if_neg hb]; done) | simp [wPF, va_re, va_up, va_rf, hb, h]
theorem wPu_O_Matching_f_alike (cyI : ClassId) (cyZ : ClassId) (cyO137d0 : ClassId) (X : va_W) (S : wPS) {A : Nat → Prop} {a k : Nat} (hD : va_D A (X ++ va_pl S.L (wPF cyI cyZ cyO137d0 S))) (hL : a ∈ S.L) (h : S.K a = 3) (hk : (X ++ va_pl S.L (wPF cyI cyZ cyO137d0 S))[k]? = some (a, wPF cyI cyZ cyO137d0 S a)) (v : Option Nat) : (X ++ va_pl S.L (wPF cyI cyZ cyO137d0 S)).set k (a, .inr (3, [va_rf v, va_rf (S.O_Matching.f_pairPoints a), va_rf (S.O_Matching.f_hopes a), va_rf (S.O_Matching.f_tried a), va_rf (S.O_Matching.f_best a), .int (S.O_Matching.f_pupilSize a), .int (S.O_Matching.f_modelSize a), .int (S.O_Matching.f_bestPoints a)])) = X ++ va_pl S.L (wPF cyI cyZ cyO137d0 { S with O_Matching := { S.O_Matching with f_alike := va_up S.O_Matching.f_alike a v } }) := by
  rw [va_pl_set hD hL hk]
  exact congrArg (fun l => X ++ l) (va_pl_congr (wSt_O_Matching_f_alike cyI cyZ cyO137d0 S h v))
theorem wSt_O_Matching_f_pairPoints (cyI : ClassId) (cyZ : ClassId) (cyO137d0 : ClassId) (S : wPS) {a : Nat} (h : S.K a = 3) (v : Option Nat) (b : Nat) : va_up (wPF cyI cyZ cyO137d0 S) a (.inr (3, [va_rf (S.O_Matching.f_alike a), va_rf v, va_rf (S.O_Matching.f_hopes a), va_rf (S.O_Matching.f_tried a), va_rf (S.O_Matching.f_best a), .int (S.O_Matching.f_pupilSize a), .int (S.O_Matching.f_modelSize a), .int (S.O_Matching.f_bestPoints a)])) b = wPF cyI cyZ cyO137d0 { S with O_Matching := { S.O_Matching with f_pairPoints := va_up S.O_Matching.f_pairPoints a v } } b := by by_cases hb : b = a <;> first | (simp only [wPF, va_up_ne _ _ hb]; done) | (simp only [wPF, va_up, if_neg hb]; done) | simp [wPF, va_re, va_up, va_rf, hb, h]
theorem wPu_O_Matching_f_pairPoints (cyI : ClassId) (cyZ : ClassId) (cyO137d0 : ClassId) (X : va_W) (S : wPS) {A : Nat → Prop} {a k : Nat} (hD : va_D A (X ++ va_pl S.L (wPF cyI cyZ cyO137d0 S))) (hL : a ∈ S.L) (h : S.K a = 3) (hk : (X ++ va_pl S.L (wPF cyI cyZ cyO137d0 S))[k]? = some (a, wPF cyI cyZ cyO137d0 S a)) (v : Option Nat) : (X ++ va_pl S.L (wPF cyI cyZ cyO137d0 S)).set k (a, .inr (3, [va_rf (S.O_Matching.f_alike a), va_rf v, va_rf (S.O_Matching.f_hopes a), va_rf (S.O_Matching.f_tried a), va_rf (S.O_Matching.f_best a), .int (S.O_Matching.f_pupilSize a), .int (S.O_Matching.f_modelSize a), .int (S.O_Matching.f_bestPoints a)])) = X ++ va_pl S.L (wPF cyI cyZ cyO137d0 { S with O_Matching := { S.O_Matching with f_pairPoints := va_up S.O_Matching.f_pairPoints a v } }) := by
  rw [va_pl_set hD hL hk]
  exact congrArg (fun l => X ++ l) (va_pl_congr (wSt_O_Matching_f_pairPoints cyI cyZ cyO137d0 S h v))
theorem wSt_O_Matching_f_hopes (cyI : ClassId) (cyZ : ClassId) (cyO137d0 : ClassId) (S : wPS) {a : Nat} (h : S.K a = 3) (v : Option Nat) (b : Nat) : va_up (wPF cyI cyZ cyO137d0 S) a (.inr (3, [va_rf (S.O_Matching.f_alike a), va_rf (S.O_Matching.f_pairPoints a), va_rf v, va_rf (S.O_Matching.f_tried a), va_rf (S.O_Matching.f_best a), .int (S.O_Matching.f_pupilSize a), .int (S.O_Matching.f_modelSize a), .int (S.O_Matching.f_bestPoints a)])) b = wPF cyI cyZ cyO137d0 { S with O_Matching := { S.O_Matching with f_hopes := va_up S.O_Matching.f_hopes a v } } b := by by_cases hb : b = a <;> first | (simp only [wPF, va_up_ne _ _ hb]; done) | (simp only [wPF, va_up, if_neg hb]; done) | simp [wPF, va_re, va_up, va_rf, hb, h]
theorem wPu_O_Matching_f_hopes (cyI : ClassId) (cyZ : ClassId) (cyO137d0 : ClassId) (X : va_W) (S : wPS) {A : Nat → Prop} {a k : Nat} (hD : va_D A (X ++ va_pl S.L (wPF cyI cyZ cyO137d0 S))) (hL : a ∈ S.L) (h : S.K a = 3) (hk : (X ++ va_pl S.L (wPF cyI cyZ cyO137d0 S))[k]? = some (a, wPF cyI cyZ cyO137d0 S a)) (v : Option Nat) : (X ++ va_pl S.L (wPF cyI cyZ cyO137d0 S)).set k (a, .inr (3, [va_rf (S.O_Matching.f_alike a), va_rf (S.O_Matching.f_pairPoints a), va_rf v, va_rf (S.O_Matching.f_tried a), va_rf (S.O_Matching.f_best a), .int (S.O_Matching.f_pupilSize a), .int (S.O_Matching.f_modelSize a), .int (S.O_Matching.f_bestPoints a)])) = X ++ va_pl S.L (wPF cyI cyZ cyO137d0 { S with O_Matching := { S.O_Matching with f_hopes := va_up S.O_Matching.f_hopes a v } }) := by
  rw [va_pl_set hD hL hk]
  exact congrArg (fun l => X ++ l) (va_pl_congr (wSt_O_Matching_f_hopes cyI cyZ cyO137d0 S h v))
theorem wSt_O_Matching_f_tried (cyI : ClassId) (cyZ : ClassId) (cyO137d0 : ClassId) (S : wPS) {a : Nat} (h : S.K a = 3) (v : Option Nat) (b : Nat) : va_up (wPF cyI cyZ cyO137d0 S) a (.inr (3, [va_rf (S.O_Matching.f_alike a), va_rf (S.O_Matching.f_pairPoints a), va_rf (S.O_Matching.f_hopes a), va_rf v, va_rf (S.O_Matching.f_best a), .int (S.O_Matching.f_pupilSize a), .int (S.O_Matching.f_modelSize a), .int (S.O_Matching.f_bestPoints a)])) b = wPF cyI cyZ cyO137d0 { S with O_Matching := { S.O_Matching with f_tried := va_up S.O_Matching.f_tried a v } } b := by by_cases hb : b = a <;> first | (simp only [wPF, va_up_ne _ _ hb]; done) | (simp only [wPF, va_up, if_neg hb]; done) | simp [wPF, va_re, va_up, va_rf, hb, h]
theorem wPu_O_Matching_f_tried (cyI : ClassId) (cyZ : ClassId) (cyO137d0 : ClassId) (X : va_W) (S : wPS) {A : Nat → Prop} {a k : Nat} (hD : va_D A (X ++ va_pl S.L (wPF cyI cyZ cyO137d0 S))) (hL : a ∈ S.L) (h : S.K a = 3) (hk : (X ++ va_pl S.L (wPF cyI cyZ cyO137d0 S))[k]? = some (a, wPF cyI cyZ cyO137d0 S a)) (v : Option Nat) : (X ++ va_pl S.L (wPF cyI cyZ cyO137d0 S)).set k (a, .inr (3, [va_rf (S.O_Matching.f_alike a), va_rf (S.O_Matching.f_pairPoints a), va_rf (S.O_Matching.f_hopes a), va_rf v, va_rf (S.O_Matching.f_best a), .int (S.O_Matching.f_pupilSize a), .int (S.O_Matching.f_modelSize a), .int (S.O_Matching.f_bestPoints a)])) = X ++ va_pl S.L (wPF cyI cyZ cyO137d0 { S with O_Matching := { S.O_Matching with f_tried := va_up S.O_Matching.f_tried a v } }) := by
  rw [va_pl_set hD hL hk]
  exact congrArg (fun l => X ++ l) (va_pl_congr (wSt_O_Matching_f_tried cyI cyZ cyO137d0 S h v))
theorem wSt_O_Matching_f_best (cyI : ClassId) (cyZ : ClassId) (cyO137d0 : ClassId) (S : wPS) {a : Nat} (h : S.K a = 3) (v : Option Nat) (b : Nat) : va_up (wPF cyI cyZ cyO137d0 S) a (.inr (3, [va_rf (S.O_Matching.f_alike a), va_rf (S.O_Matching.f_pairPoints a), va_rf (S.O_Matching.f_hopes a), va_rf (S.O_Matching.f_tried a), va_rf v, .int (S.O_Matching.f_pupilSize a), .int (S.O_Matching.f_modelSize a), .int (S.O_Matching.f_bestPoints a)])) b = wPF cyI cyZ cyO137d0 { S with O_Matching := { S.O_Matching with f_best := va_up S.O_Matching.f_best a v } } b := by by_cases hb : b = a <;> first | (simp only [wPF, va_up_ne _ _ hb]; done) | (simp only [wPF, va_up, if_neg hb]; done) | simp [wPF, va_re, va_up, va_rf, hb, h]
theorem wPu_O_Matching_f_best (cyI : ClassId) (cyZ : ClassId) (cyO137d0 : ClassId) (X : va_W) (S : wPS) {A : Nat → Prop} {a k : Nat} (hD : va_D A (X ++ va_pl S.L (wPF cyI cyZ cyO137d0 S))) (hL : a ∈ S.L) (h : S.K a = 3) (hk : (X ++ va_pl S.L (wPF cyI cyZ cyO137d0 S))[k]? = some (a, wPF cyI cyZ cyO137d0 S a)) (v : Option Nat) : (X ++ va_pl S.L (wPF cyI cyZ cyO137d0 S)).set k (a, .inr (3, [va_rf (S.O_Matching.f_alike a), va_rf (S.O_Matching.f_pairPoints a), va_rf (S.O_Matching.f_hopes a), va_rf (S.O_Matching.f_tried a), va_rf v, .int (S.O_Matching.f_pupilSize a), .int (S.O_Matching.f_modelSize a), .int (S.O_Matching.f_bestPoints a)])) = X ++ va_pl S.L (wPF cyI cyZ cyO137d0 { S with O_Matching := { S.O_Matching with f_best := va_up S.O_Matching.f_best a v } }) := by
  rw [va_pl_set hD hL hk]
  exact congrArg (fun l => X ++ l) (va_pl_congr (wSt_O_Matching_f_best cyI cyZ cyO137d0 S h v))
theorem wSt_O_Matching_f_pupilSize (cyI : ClassId) (cyZ : ClassId) (cyO137d0 : ClassId) (S : wPS) {a : Nat} (h : S.K a = 3) (v : Int32) (b : Nat) : va_up (wPF cyI cyZ cyO137d0 S) a (.inr (3, [va_rf (S.O_Matching.f_alike a), va_rf (S.O_Matching.f_pairPoints a), va_rf (S.O_Matching.f_hopes a), va_rf (S.O_Matching.f_tried a), va_rf (S.O_Matching.f_best a), .int v, .int (S.O_Matching.f_modelSize a), .int (S.O_Matching.f_bestPoints a)])) b = wPF cyI cyZ cyO137d0 { S with O_Matching := { S.O_Matching with f_pupilSize := va_up S.O_Matching.f_pupilSize a v } } b := by by_cases hb : b = a <;> first | (simp only [wPF, va_up_ne _ _ hb]; done) | (simp only [wPF, va_up, if_neg hb]; done) | simp [wPF, va_re, va_up, va_rf, hb, h]
theorem wPu_O_Matching_f_pupilSize (cyI : ClassId) (cyZ : ClassId) (cyO137d0 : ClassId) (X : va_W) (S : wPS) {A : Nat → Prop} {a k : Nat} (hD : va_D A (X ++ va_pl S.L (wPF cyI cyZ cyO137d0 S))) (hL : a ∈ S.L) (h : S.K a = 3) (hk : (X ++ va_pl S.L (wPF cyI cyZ cyO137d0 S))[k]? = some (a, wPF cyI cyZ cyO137d0 S a)) (v : Int32) : (X ++ va_pl S.L (wPF cyI cyZ cyO137d0 S)).set k (a, .inr (3, [va_rf (S.O_Matching.f_alike a), va_rf (S.O_Matching.f_pairPoints a), va_rf (S.O_Matching.f_hopes a), va_rf (S.O_Matching.f_tried a), va_rf (S.O_Matching.f_best a), .int v, .int (S.O_Matching.f_modelSize a), .int (S.O_Matching.f_bestPoints a)])) = X ++ va_pl S.L (wPF cyI cyZ cyO137d0 { S with O_Matching := { S.O_Matching with f_pupilSize := va_up S.O_Matching.f_pupilSize a v } }) := by
  rw [va_pl_set hD hL hk]
  exact congrArg (fun l => X ++ l) (va_pl_congr (wSt_O_Matching_f_pupilSize cyI cyZ cyO137d0 S h v))
theorem wSt_O_Matching_f_modelSize (cyI : ClassId) (cyZ : ClassId) (cyO137d0 : ClassId) (S : wPS) {a : Nat} (h : S.K a = 3) (v : Int32) (b : Nat) : va_up (wPF cyI cyZ cyO137d0 S) a (.inr (3, [va_rf (S.O_Matching.f_alike a), va_rf (S.O_Matching.f_pairPoints a), va_rf (S.O_Matching.f_hopes a), va_rf (S.O_Matching.f_tried a), va_rf (S.O_Matching.f_best a), .int (S.O_Matching.f_pupilSize a), .int v, .int (S.O_Matching.f_bestPoints a)])) b = wPF cyI cyZ cyO137d0 { S with O_Matching := { S.O_Matching with f_modelSize := va_up S.O_Matching.f_modelSize a v } } b := by by_cases hb : b = a <;> first | (simp only [wPF, va_up_ne _ _ hb]; done) | (simp only [wPF, va_up, if_neg hb]; done) | simp [wPF, va_re, va_up, va_rf, hb, h]
theorem wPu_O_Matching_f_modelSize (cyI : ClassId) (cyZ : ClassId) (cyO137d0 : ClassId) (X : va_W) (S : wPS) {A : Nat → Prop} {a k : Nat} (hD : va_D A (X ++ va_pl S.L (wPF cyI cyZ cyO137d0 S))) (hL : a ∈ S.L) (h : S.K a = 3) (hk : (X ++ va_pl S.L (wPF cyI cyZ cyO137d0 S))[k]? = some (a, wPF cyI cyZ cyO137d0 S a)) (v : Int32) : (X ++ va_pl S.L (wPF cyI cyZ cyO137d0 S)).set k (a, .inr (3, [va_rf (S.O_Matching.f_alike a), va_rf (S.O_Matching.f_pairPoints a), va_rf (S.O_Matching.f_hopes a), va_rf (S.O_Matching.f_tried a), va_rf (S.O_Matching.f_best a), .int (S.O_Matching.f_pupilSize a), .int v, .int (S.O_Matching.f_bestPoints a)])) = X ++ va_pl S.L (wPF cyI cyZ cyO137d0 { S with O_Matching := { S.O_Matching with f_modelSize := va_up S.O_Matching.f_modelSize a v } }) := by
  rw [va_pl_set hD hL hk]
  exact congrArg (fun l => X ++ l) (va_pl_congr (wSt_O_Matching_f_modelSize cyI cyZ cyO137d0 S h v))
theorem wSt_O_Matching_f_bestPoints (cyI : ClassId) (cyZ : ClassId) (cyO137d0 : ClassId) (S : wPS) {a : Nat} (h : S.K a = 3) (v : Int32) (b : Nat) : va_up (wPF cyI cyZ cyO137d0 S) a (.inr (3, [va_rf (S.O_Matching.f_alike a), va_rf (S.O_Matching.f_pairPoints a), va_rf (S.O_Matching.f_hopes a), va_rf (S.O_Matching.f_tried a), va_rf (S.O_Matching.f_best a), .int (S.O_Matching.f_pupilSize a), .int (S.O_Matching.f_modelSize a), .int v])) b = wPF cyI cyZ cyO137d0 { S with O_Matching := { S.O_Matching with f_bestPoints := va_up S.O_Matching.f_bestPoints a v } } b := by by_cases hb : b = a <;> first | (simp only [wPF, va_up_ne _ _ hb]; done) | (simp only [wPF, va_up, if_neg hb]; done) | simp [wPF, va_re, va_up, va_rf, hb, h]
theorem wPu_O_Matching_f_bestPoints (cyI : ClassId) (cyZ : ClassId) (cyO137d0 : ClassId) (X : va_W) (S : wPS) {A : Nat → Prop} {a k : Nat} (hD : va_D A (X ++ va_pl S.L (wPF cyI cyZ cyO137d0 S))) (hL : a ∈ S.L) (h : S.K a = 3) (hk : (X ++ va_pl S.L (wPF cyI cyZ cyO137d0 S))[k]? = some (a, wPF cyI cyZ cyO137d0 S a)) (v : Int32) : (X ++ va_pl S.L (wPF cyI cyZ cyO137d0 S)).set k (a, .inr (3, [va_rf (S.O_Matching.f_alike a), va_rf (S.O_Matching.f_pairPoints a), va_rf (S.O_Matching.f_hopes a), va_rf (S.O_Matching.f_tried a), va_rf (S.O_Matching.f_best a), .int (S.O_Matching.f_pupilSize a), .int (S.O_Matching.f_modelSize a), .int v])) = X ++ va_pl S.L (wPF cyI cyZ cyO137d0 { S with O_Matching := { S.O_Matching with f_bestPoints := va_up S.O_Matching.f_bestPoints a v } }) := by
  rw [va_pl_set hD hL hk]
  exact congrArg (fun l => X ++ l) (va_pl_congr (wSt_O_Matching_f_bestPoints cyI cyZ cyO137d0 S h v))
theorem wNw_O_Matching (cyI : ClassId) (cyZ : ClassId) (cyO137d0 : ClassId) (S : wPS) (a b : Nat) : va_up (wPF cyI cyZ cyO137d0 S) a (.inr (3, [.null, .null, .null, .null, .null, .int 0, .int 0, .int 0])) b = wPF cyI cyZ cyO137d0 { S with L := S.L ++ [a], K := va_up S.K a 3, O_Matching := { f_alike := va_up S.O_Matching.f_alike a none, f_pairPoints := va_up S.O_Matching.f_pairPoints a none, f_hopes := va_up S.O_Matching.f_hopes a none, f_tried := va_up S.O_Matching.f_tried a none, f_best := va_up S.O_Matching.f_best a none, f_pupilSize := va_up S.O_Matching.f_pupilSize a 0, f_modelSize := va_up S.O_Matching.f_modelSize a 0, f_bestPoints := va_up S.O_Matching.f_bestPoints a 0 } } b := by by_cases hb : b = a <;> first | (simp only [wPF, va_up_ne _ _ hb]; done) | (simp only [wPF, va_up, if_neg hb]; done) | simp [wPF, va_re, va_up, va_rf, hb]
theorem wPn_O_Matching (cyI : ClassId) (cyZ : ClassId) (cyO137d0 : ClassId) (X : va_W) (S : wPS) {a : Nat} (ha : a ∉ S.L) : (X ++ va_pl S.L (wPF cyI cyZ cyO137d0 S)) ++ [(a, .inr (3, [.null, .null, .null, .null, .null, .int 0, .int 0, .int 0]))] = X ++ va_pl (S.L ++ [a]) (wPF cyI cyZ cyO137d0 { S with L := S.L ++ [a], K := va_up S.K a 3, O_Matching := { f_alike := va_up S.O_Matching.f_alike a none, f_pairPoints := va_up S.O_Matching.f_pairPoints a none, f_hopes := va_up S.O_Matching.f_hopes a none, f_tried := va_up S.O_Matching.f_tried a none, f_best := va_up S.O_Matching.f_best a none, f_pupilSize := va_up S.O_Matching.f_pupilSize a 0, f_modelSize := va_up S.O_Matching.f_modelSize a 0, f_bestPoints := va_up S.O_Matching.f_bestPoints a 0 } }) := by
  rw [List.append_assoc, va_pl_push ha]
  exact congrArg (fun l => X ++ l) (va_pl_congr (wNw_O_Matching cyI cyZ cyO137d0 S a))
theorem wAt_O_Row (cyI : ClassId) (cyZ : ClassId) (cyO137d0 : ClassId) (S : wPS) {a : Nat} (h : S.K a = 4) : wPF cyI cyZ cyO137d0 S a = .inr (4, [va_rf (S.O_Row.f_numbers a)]) := by simp [wPF, h]
theorem wGt_O_Row (cyI : ClassId) (cyZ : ClassId) (cyO137d0 : ClassId) (X : va_W) (S : wPS) {a : Nat} (hL : a ∈ S.L) (h : S.K a = 4) : ∃ k : Nat, (X ++ va_pl S.L (wPF cyI cyZ cyO137d0 S))[k]? = some (a, wPF cyI cyZ cyO137d0 S a) ∧ (X ++ va_pl S.L (wPF cyI cyZ cyO137d0 S))[k]? = some (a, .inr (4, [va_rf (S.O_Row.f_numbers a)])) := by
  obtain ⟨k, hk⟩ := va_pl_get (X := X) (f := wPF cyI cyZ cyO137d0 S) hL
  exact ⟨k, hk, hk.trans (congrArg (fun e => some (a, e)) (wAt_O_Row cyI cyZ cyO137d0 S h))⟩
theorem wSt_O_Row_f_numbers (cyI : ClassId) (cyZ : ClassId) (cyO137d0 : ClassId) (S : wPS) {a : Nat} (h : S.K a = 4) (v : Option Nat) (b : Nat) : va_up (wPF cyI cyZ cyO137d0 S) a (.inr (4, [va_rf v])) b = wPF cyI cyZ cyO137d0 { S with O_Row := { f_numbers := va_up S.O_Row.f_numbers a v } } b := by by_cases hb : b = a <;> first | (simp only [wPF, va_up_ne _ _ hb]; done) | (simp only [wPF, va_up, if_neg hb]; done) | simp [wPF, va_re, va_up, va_rf, hb, h]
theorem wPu_O_Row_f_numbers (cyI : ClassId) (cyZ : ClassId) (cyO137d0 : ClassId) (X : va_W) (S : wPS) {A : Nat → Prop} {a k : Nat} (hD : va_D A (X ++ va_pl S.L (wPF cyI cyZ cyO137d0 S))) (hL : a ∈ S.L) (h : S.K a = 4) (hk : (X ++ va_pl S.L (wPF cyI cyZ cyO137d0 S))[k]? = some (a, wPF cyI cyZ cyO137d0 S a)) (v : Option Nat) : (X ++ va_pl S.L (wPF cyI cyZ cyO137d0 S)).set k (a, .inr (4, [va_rf v])) = X ++ va_pl S.L (wPF cyI cyZ cyO137d0 { S with O_Row := { f_numbers := va_up S.O_Row.f_numbers a v } }) := by
  rw [va_pl_set hD hL hk]
  exact congrArg (fun l => X ++ l) (va_pl_congr (wSt_O_Row_f_numbers cyI cyZ cyO137d0 S h v))
theorem wNw_O_Row (cyI : ClassId) (cyZ : ClassId) (cyO137d0 : ClassId) (S : wPS) (a b : Nat) : va_up (wPF cyI cyZ cyO137d0 S) a (.inr (4, [.null])) b = wPF cyI cyZ cyO137d0 { S with L := S.L ++ [a], K := va_up S.K a 4, O_Row := { f_numbers := va_up S.O_Row.f_numbers a none } } b := by by_cases hb : b = a <;> first | (simp only [wPF, va_up_ne _ _ hb]; done) | (simp only [wPF, va_up, if_neg hb]; done) | simp [wPF, va_re, va_up, va_rf, hb]
theorem wPn_O_Row (cyI : ClassId) (cyZ : ClassId) (cyO137d0 : ClassId) (X : va_W) (S : wPS) {a : Nat} (ha : a ∉ S.L) : (X ++ va_pl S.L (wPF cyI cyZ cyO137d0 S)) ++ [(a, .inr (4, [.null]))] = X ++ va_pl (S.L ++ [a]) (wPF cyI cyZ cyO137d0 { S with L := S.L ++ [a], K := va_up S.K a 4, O_Row := { f_numbers := va_up S.O_Row.f_numbers a none } }) := by
  rw [List.append_assoc, va_pl_push ha]
  exact congrArg (fun l => X ++ l) (va_pl_congr (wNw_O_Row cyI cyZ cyO137d0 S a))
theorem wAt_O_Thesaurus (cyI : ClassId) (cyZ : ClassId) (cyO137d0 : ClassId) (S : wPS) {a : Nat} (h : S.K a = 5) : wPF cyI cyZ cyO137d0 S a = .inr (5, [va_rf (S.O_Thesaurus.f_groups a)]) := by simp [wPF, h]
theorem wGt_O_Thesaurus (cyI : ClassId) (cyZ : ClassId) (cyO137d0 : ClassId) (X : va_W) (S : wPS) {a : Nat} (hL : a ∈ S.L) (h : S.K a = 5) : ∃ k : Nat, (X ++ va_pl S.L (wPF cyI cyZ cyO137d0 S))[k]? = some (a, wPF cyI cyZ cyO137d0 S a) ∧ (X ++ va_pl S.L (wPF cyI cyZ cyO137d0 S))[k]? = some (a, .inr (5, [va_rf (S.O_Thesaurus.f_groups a)])) := by
  obtain ⟨k, hk⟩ := va_pl_get (X := X) (f := wPF cyI cyZ cyO137d0 S) hL
  exact ⟨k, hk, hk.trans (congrArg (fun e => some (a, e)) (wAt_O_Thesaurus cyI cyZ cyO137d0 S h))⟩
theorem wSt_O_Thesaurus_f_groups (cyI : ClassId) (cyZ : ClassId) (cyO137d0 : ClassId) (S : wPS) {a : Nat} (h : S.K a = 5) (v : Option Nat) (b : Nat) : va_up (wPF cyI cyZ cyO137d0 S) a (.inr (5, [va_rf v])) b = wPF cyI cyZ cyO137d0 { S with O_Thesaurus := { f_groups := va_up S.O_Thesaurus.f_groups a v } } b := by by_cases hb : b = a <;> first | (simp only [wPF, va_up_ne _ _ hb]; done) | (simp only [wPF, va_up, if_neg hb]; done) | simp [wPF, va_re, va_up, va_rf, hb, h]
theorem wPu_O_Thesaurus_f_groups (cyI : ClassId) (cyZ : ClassId) (cyO137d0 : ClassId) (X : va_W) (S : wPS) {A : Nat → Prop} {a k : Nat} (hD : va_D A (X ++ va_pl S.L (wPF cyI cyZ cyO137d0 S))) (hL : a ∈ S.L) (h : S.K a = 5) (hk : (X ++ va_pl S.L (wPF cyI cyZ cyO137d0 S))[k]? = some (a, wPF cyI cyZ cyO137d0 S a)) (v : Option Nat) : (X ++ va_pl S.L (wPF cyI cyZ cyO137d0 S)).set k (a, .inr (5, [va_rf v])) = X ++ va_pl S.L (wPF cyI cyZ cyO137d0 { S with O_Thesaurus := { f_groups := va_up S.O_Thesaurus.f_groups a v } }) := by
  rw [va_pl_set hD hL hk]
  exact congrArg (fun l => X ++ l) (va_pl_congr (wSt_O_Thesaurus_f_groups cyI cyZ cyO137d0 S h v))
theorem wNw_O_Thesaurus (cyI : ClassId) (cyZ : ClassId) (cyO137d0 : ClassId) (S : wPS) (a b : Nat) : va_up (wPF cyI cyZ cyO137d0 S) a (.inr (5, [.null])) b = wPF cyI cyZ cyO137d0 { S with L := S.L ++ [a], K := va_up S.K a 5, O_Thesaurus := { f_groups := va_up S.O_Thesaurus.f_groups a none } } b := by by_cases hb : b = a <;> first | (simp only [wPF, va_up_ne _ _ hb]; done) | (simp only [wPF, va_up, if_neg hb]; done) | simp [wPF, va_re, va_up, va_rf, hb]
theorem wPn_O_Thesaurus (cyI : ClassId) (cyZ : ClassId) (cyO137d0 : ClassId) (X : va_W) (S : wPS) {a : Nat} (ha : a ∉ S.L) : (X ++ va_pl S.L (wPF cyI cyZ cyO137d0 S)) ++ [(a, .inr (5, [.null]))] = X ++ va_pl (S.L ++ [a]) (wPF cyI cyZ cyO137d0 { S with L := S.L ++ [a], K := va_up S.K a 5, O_Thesaurus := { f_groups := va_up S.O_Thesaurus.f_groups a none } }) := by
  rw [List.append_assoc, va_pl_push ha]
  exact congrArg (fun l => X ++ l) (va_pl_congr (wNw_O_Thesaurus cyI cyZ cyO137d0 S a))
theorem wAt_O_ConceptMarker (cyI : ClassId) (cyZ : ClassId) (cyO137d0 : ClassId) (S : wPS) {a : Nat} (h : S.K a = 6) : wPF cyI cyZ cyO137d0 S a = .inr (6, [va_rf (S.O_ConceptMarker.f_pupil a), va_rf (S.O_ConceptMarker.f_maps a), va_rf (S.O_ConceptMarker.f_thesaurus a), va_rf (S.O_ConceptMarker.f_chains a), va_rf (S.O_ConceptMarker.f_holding a), va_rf (S.O_ConceptMarker.f_trialLinks a), va_rf (S.O_ConceptMarker.f_trialHolding a), va_rf (S.O_ConceptMarker.f_matching a), .int (S.O_ConceptMarker.f_bestLink a), .int (S.O_ConceptMarker.f_bestGain a)]) := by simp [wPF, h]
theorem wGt_O_ConceptMarker (cyI : ClassId) (cyZ : ClassId) (cyO137d0 : ClassId) (X : va_W) (S : wPS) {a : Nat} (hL : a ∈ S.L) (h : S.K a = 6) : ∃ k : Nat, (X ++ va_pl S.L (wPF cyI cyZ cyO137d0 S))[k]? = some (a, wPF cyI cyZ cyO137d0 S a) ∧ (X ++ va_pl S.L (wPF cyI cyZ cyO137d0 S))[k]? = some (a, .inr (6, [va_rf (S.O_ConceptMarker.f_pupil a), va_rf (S.O_ConceptMarker.f_maps a), va_rf (S.O_ConceptMarker.f_thesaurus a), va_rf (S.O_ConceptMarker.f_chains a), va_rf (S.O_ConceptMarker.f_holding a), va_rf (S.O_ConceptMarker.f_trialLinks a), va_rf (S.O_ConceptMarker.f_trialHolding a), va_rf (S.O_ConceptMarker.f_matching a), .int (S.O_ConceptMarker.f_bestLink a), .int (S.O_ConceptMarker.f_bestGain a)])) := by
  obtain ⟨k, hk⟩ := va_pl_get (X := X) (f := wPF cyI cyZ cyO137d0 S) hL
  exact ⟨k, hk, hk.trans (congrArg (fun e => some (a, e)) (wAt_O_ConceptMarker cyI cyZ cyO137d0 S h))⟩
theorem wSt_O_ConceptMarker_f_pupil (cyI : ClassId) (cyZ : ClassId) (cyO137d0 : ClassId) (S : wPS) {a : Nat} (h : S.K a = 6) (v : Option Nat) (b : Nat) : va_up (wPF cyI cyZ cyO137d0 S) a (.inr (6, [va_rf v, va_rf (S.O_ConceptMarker.f_maps a), va_rf (S.O_ConceptMarker.f_thesaurus a), va_rf (S.O_ConceptMarker.f_chains a), va_rf (S.O_ConceptMarker.f_holding a), va_rf (S.O_ConceptMarker.f_trialLinks a), va_rf (S.O_ConceptMarker.f_trialHolding a), va_rf (S.O_ConceptMarker.f_matching a), .int (S.O_ConceptMarker.f_bestLink a), .int (S.O_ConceptMarker.f_bestGain a)])) b = wPF cyI cyZ cyO137d0 { S with O_ConceptMarker := { S.O_ConceptMarker with f_pupil := va_up S.O_ConceptMarker.f_pupil a v } } b := by by_cases hb : b = a <;> first | (simp only [wPF, va_up_ne _ _ hb]; done) | (simp only [wPF, va_up, if_neg hb]; done) | simp [wPF, va_re, va_up, va_rf, hb, h]
theorem wPu_O_ConceptMarker_f_pupil (cyI : ClassId) (cyZ : ClassId) (cyO137d0 : ClassId) (X : va_W) (S : wPS) {A : Nat → Prop} {a k : Nat} (hD : va_D A (X ++ va_pl S.L (wPF cyI cyZ cyO137d0 S))) (hL : a ∈ S.L) (h : S.K a = 6) (hk : (X ++ va_pl S.L (wPF cyI cyZ cyO137d0 S))[k]? = some (a, wPF cyI cyZ cyO137d0 S a)) (v : Option Nat) : (X ++ va_pl S.L (wPF cyI cyZ cyO137d0 S)).set k (a, .inr (6, [va_rf v, va_rf (S.O_ConceptMarker.f_maps a), va_rf (S.O_ConceptMarker.f_thesaurus a), va_rf (S.O_ConceptMarker.f_chains a), va_rf (S.O_ConceptMarker.f_holding a), va_rf (S.O_ConceptMarker.f_trialLinks a), va_rf (S.O_ConceptMarker.f_trialHolding a), va_rf (S.O_ConceptMarker.f_matching a), .int (S.O_ConceptMarker.f_bestLink a), .int (S.O_ConceptMarker.f_bestGain a)])) = X ++ va_pl S.L (wPF cyI cyZ cyO137d0 { S with O_ConceptMarker := { S.O_ConceptMarker with f_pupil := va_up S.O_ConceptMarker.f_pupil a v } }) := by
  rw [va_pl_set hD hL hk]
  exact congrArg (fun l => X ++ l) (va_pl_congr (wSt_O_ConceptMarker_f_pupil cyI cyZ cyO137d0 S h v))
theorem wSt_O_ConceptMarker_f_maps (cyI : ClassId) (cyZ : ClassId) (cyO137d0 : ClassId) (S : wPS) {a : Nat} (h : S.K a = 6) (v : Option Nat) (b : Nat) : va_up (wPF cyI cyZ cyO137d0 S) a (.inr (6, [va_rf (S.O_ConceptMarker.f_pupil a), va_rf v, va_rf (S.O_ConceptMarker.f_thesaurus a), va_rf (S.O_ConceptMarker.f_chains a), va_rf (S.O_ConceptMarker.f_holding a), va_rf (S.O_ConceptMarker.f_trialLinks a), va_rf (S.O_ConceptMarker.f_trialHolding a), va_rf (S.O_ConceptMarker.f_matching a), .int (S.O_ConceptMarker.f_bestLink a), .int (S.O_ConceptMarker.f_bestGain a)])) b = wPF cyI cyZ cyO137d0 { S with O_ConceptMarker := { S.O_ConceptMarker with f_maps := va_up S.O_ConceptMarker.f_maps a v } } b := by by_cases hb : b = a <;> first | (simp only [wPF, va_up_ne _ _ hb]; done) | (simp only [wPF, va_up, if_neg hb]; done) | simp [wPF, va_re, va_up, va_rf, hb, h]
theorem wPu_O_ConceptMarker_f_maps (cyI : ClassId) (cyZ : ClassId) (cyO137d0 : ClassId) (X : va_W) (S : wPS) {A : Nat → Prop} {a k : Nat} (hD : va_D A (X ++ va_pl S.L (wPF cyI cyZ cyO137d0 S))) (hL : a ∈ S.L) (h : S.K a = 6) (hk : (X ++ va_pl S.L (wPF cyI cyZ cyO137d0 S))[k]? = some (a, wPF cyI cyZ cyO137d0 S a)) (v : Option Nat) : (X ++ va_pl S.L (wPF cyI cyZ cyO137d0 S)).set k (a, .inr (6, [va_rf (S.O_ConceptMarker.f_pupil a), va_rf v, va_rf (S.O_ConceptMarker.f_thesaurus a), va_rf (S.O_ConceptMarker.f_chains a), va_rf (S.O_ConceptMarker.f_holding a), va_rf (S.O_ConceptMarker.f_trialLinks a), va_rf (S.O_ConceptMarker.f_trialHolding a), va_rf (S.O_ConceptMarker.f_matching a), .int (S.O_ConceptMarker.f_bestLink a), .int (S.O_ConceptMarker.f_bestGain a)])) = X ++ va_pl S.L (wPF cyI cyZ cyO137d0 { S with O_ConceptMarker := { S.O_ConceptMarker with f_maps := va_up S.O_ConceptMarker.f_maps a v } }) := by
  rw [va_pl_set hD hL hk]
  exact congrArg (fun l => X ++ l) (va_pl_congr (wSt_O_ConceptMarker_f_maps cyI cyZ cyO137d0 S h v))
theorem wSt_O_ConceptMarker_f_thesaurus (cyI : ClassId) (cyZ : ClassId) (cyO137d0 : ClassId) (S : wPS) {a : Nat} (h : S.K a = 6) (v : Option Nat) (b : Nat) : va_up (wPF cyI cyZ cyO137d0 S) a (.inr (6, [va_rf (S.O_ConceptMarker.f_pupil a), va_rf (S.O_ConceptMarker.f_maps a), va_rf v, va_rf (S.O_ConceptMarker.f_chains a), va_rf (S.O_ConceptMarker.f_holding a), va_rf (S.O_ConceptMarker.f_trialLinks a), va_rf (S.O_ConceptMarker.f_trialHolding a), va_rf (S.O_ConceptMarker.f_matching a), .int (S.O_ConceptMarker.f_bestLink a), .int (S.O_ConceptMarker.f_bestGain a)])) b = wPF cyI cyZ cyO137d0 { S with O_ConceptMarker := { S.O_ConceptMarker with f_thesaurus := va_up S.O_ConceptMarker.f_thesaurus a v } } b := by by_cases hb : b = a <;> first | (simp only [wPF, va_up_ne _ _ hb]; done) | (simp only [wPF, va_up, if_neg hb]; done) | simp [wPF, va_re, va_up, va_rf, hb, h]
theorem wPu_O_ConceptMarker_f_thesaurus (cyI : ClassId) (cyZ : ClassId) (cyO137d0 : ClassId) (X : va_W) (S : wPS) {A : Nat → Prop} {a k : Nat} (hD : va_D A (X ++ va_pl S.L (wPF cyI cyZ cyO137d0 S))) (hL : a ∈ S.L) (h : S.K a = 6) (hk : (X ++ va_pl S.L (wPF cyI cyZ cyO137d0 S))[k]? = some (a, wPF cyI cyZ cyO137d0 S a)) (v : Option Nat) : (X ++ va_pl S.L (wPF cyI cyZ cyO137d0 S)).set k (a, .inr (6, [va_rf (S.O_ConceptMarker.f_pupil a), va_rf (S.O_ConceptMarker.f_maps a), va_rf v, va_rf (S.O_ConceptMarker.f_chains a), va_rf (S.O_ConceptMarker.f_holding a), va_rf (S.O_ConceptMarker.f_trialLinks a), va_rf (S.O_ConceptMarker.f_trialHolding a), va_rf (S.O_ConceptMarker.f_matching a), .int (S.O_ConceptMarker.f_bestLink a), .int (S.O_ConceptMarker.f_bestGain a)])) = X ++ va_pl S.L (wPF cyI cyZ cyO137d0 { S with O_ConceptMarker := { S.O_ConceptMarker with f_thesaurus := va_up S.O_ConceptMarker.f_thesaurus a v } }) := by
  rw [va_pl_set hD hL hk]
  exact congrArg (fun l => X ++ l) (va_pl_congr (wSt_O_ConceptMarker_f_thesaurus cyI cyZ cyO137d0 S h v))
theorem wSt_O_ConceptMarker_f_chains (cyI : ClassId) (cyZ : ClassId) (cyO137d0 : ClassId) (S : wPS) {a : Nat} (h : S.K a = 6) (v : Option Nat) (b : Nat) : va_up (wPF cyI cyZ cyO137d0 S) a (.inr (6, [va_rf (S.O_ConceptMarker.f_pupil a), va_rf (S.O_ConceptMarker.f_maps a), va_rf (S.O_ConceptMarker.f_thesaurus a), va_rf v, va_rf (S.O_ConceptMarker.f_holding a), va_rf (S.O_ConceptMarker.f_trialLinks a), va_rf (S.O_ConceptMarker.f_trialHolding a), va_rf (S.O_ConceptMarker.f_matching a), .int (S.O_ConceptMarker.f_bestLink a), .int (S.O_ConceptMarker.f_bestGain a)])) b = wPF cyI cyZ cyO137d0 { S with O_ConceptMarker := { S.O_ConceptMarker with f_chains := va_up S.O_ConceptMarker.f_chains a v } } b := by by_cases hb : b = a <;> first | (simp only [wPF, va_up_ne _ _ hb]; done) | (simp only [wPF, va_up, if_neg hb]; done) | simp [wPF, va_re, va_up, va_rf, hb, h]
theorem wPu_O_ConceptMarker_f_chains (cyI : ClassId) (cyZ : ClassId) (cyO137d0 : ClassId) (X : va_W) (S : wPS) {A : Nat → Prop} {a k : Nat} (hD : va_D A (X ++ va_pl S.L (wPF cyI cyZ cyO137d0 S))) (hL : a ∈ S.L) (h : S.K a = 6) (hk : (X ++ va_pl S.L (wPF cyI cyZ cyO137d0 S))[k]? = some (a, wPF cyI cyZ cyO137d0 S a)) (v : Option Nat) : (X ++ va_pl S.L (wPF cyI cyZ cyO137d0 S)).set k (a, .inr (6, [va_rf (S.O_ConceptMarker.f_pupil a), va_rf (S.O_ConceptMarker.f_maps a), va_rf (S.O_ConceptMarker.f_thesaurus a), va_rf v, va_rf (S.O_ConceptMarker.f_holding a), va_rf (S.O_ConceptMarker.f_trialLinks a), va_rf (S.O_ConceptMarker.f_trialHolding a), va_rf (S.O_ConceptMarker.f_matching a), .int (S.O_ConceptMarker.f_bestLink a), .int (S.O_ConceptMarker.f_bestGain a)])) = X ++ va_pl S.L (wPF cyI cyZ cyO137d0 { S with O_ConceptMarker := { S.O_ConceptMarker with f_chains := va_up S.O_ConceptMarker.f_chains a v } }) := by
  rw [va_pl_set hD hL hk]
  exact congrArg (fun l => X ++ l) (va_pl_congr (wSt_O_ConceptMarker_f_chains cyI cyZ cyO137d0 S h v))
theorem wSt_O_ConceptMarker_f_holding (cyI : ClassId) (cyZ : ClassId) (cyO137d0 : ClassId) (S : wPS) {a : Nat} (h : S.K a = 6) (v : Option Nat) (b : Nat) : va_up (wPF cyI cyZ cyO137d0 S) a (.inr (6, [va_rf (S.O_ConceptMarker.f_pupil a), va_rf (S.O_ConceptMarker.f_maps a), va_rf (S.O_ConceptMarker.f_thesaurus a), va_rf (S.O_ConceptMarker.f_chains a), va_rf v, va_rf (S.O_ConceptMarker.f_trialLinks a), va_rf (S.O_ConceptMarker.f_trialHolding a), va_rf (S.O_ConceptMarker.f_matching a), .int (S.O_ConceptMarker.f_bestLink a), .int (S.O_ConceptMarker.f_bestGain a)])) b = wPF cyI cyZ cyO137d0 { S with O_ConceptMarker := { S.O_ConceptMarker with f_holding := va_up S.O_ConceptMarker.f_holding a v } } b := by by_cases hb : b = a <;> first | (simp only [wPF, va_up_ne _ _ hb]; done) | (simp only [wPF, va_up, if_neg hb]; done) | simp [wPF, va_re, va_up, va_rf, hb, h]
theorem wPu_O_ConceptMarker_f_holding (cyI : ClassId) (cyZ : ClassId) (cyO137d0 : ClassId) (X : va_W) (S : wPS) {A : Nat → Prop} {a k : Nat} (hD : va_D A (X ++ va_pl S.L (wPF cyI cyZ cyO137d0 S))) (hL : a ∈ S.L) (h : S.K a = 6) (hk : (X ++ va_pl S.L (wPF cyI cyZ cyO137d0 S))[k]? = some (a, wPF cyI cyZ cyO137d0 S a)) (v : Option Nat) : (X ++ va_pl S.L (wPF cyI cyZ cyO137d0 S)).set k (a, .inr (6, [va_rf (S.O_ConceptMarker.f_pupil a), va_rf (S.O_ConceptMarker.f_maps a), va_rf (S.O_ConceptMarker.f_thesaurus a), va_rf (S.O_ConceptMarker.f_chains a), va_rf v, va_rf (S.O_ConceptMarker.f_trialLinks a), va_rf (S.O_ConceptMarker.f_trialHolding a), va_rf (S.O_ConceptMarker.f_matching a), .int (S.O_ConceptMarker.f_bestLink a), .int (S.O_ConceptMarker.f_bestGain a)])) = X ++ va_pl S.L (wPF cyI cyZ cyO137d0 { S with O_ConceptMarker := { S.O_ConceptMarker with f_holding := va_up S.O_ConceptMarker.f_holding a v } }) := by
  rw [va_pl_set hD hL hk]
  exact congrArg (fun l => X ++ l) (va_pl_congr (wSt_O_ConceptMarker_f_holding cyI cyZ cyO137d0 S h v))
theorem wSt_O_ConceptMarker_f_trialLinks (cyI : ClassId) (cyZ : ClassId) (cyO137d0 : ClassId) (S : wPS) {a : Nat} (h : S.K a = 6) (v : Option Nat) (b : Nat) : va_up (wPF cyI cyZ cyO137d0 S) a (.inr (6, [va_rf (S.O_ConceptMarker.f_pupil a), va_rf (S.O_ConceptMarker.f_maps a), va_rf (S.O_ConceptMarker.f_thesaurus a), va_rf (S.O_ConceptMarker.f_chains a), va_rf (S.O_ConceptMarker.f_holding a), va_rf v, va_rf (S.O_ConceptMarker.f_trialHolding a), va_rf (S.O_ConceptMarker.f_matching a), .int (S.O_ConceptMarker.f_bestLink a), .int (S.O_ConceptMarker.f_bestGain a)])) b = wPF cyI cyZ cyO137d0 { S with O_ConceptMarker := { S.O_ConceptMarker with f_trialLinks := va_up S.O_ConceptMarker.f_trialLinks a v } } b := by by_cases hb : b = a <;> first | (simp only [wPF, va_up_ne _ _ hb]; done) | (simp only [wPF, va_up, if_neg hb]; done) | simp [wPF, va_re, va_up, va_rf, hb, h]
theorem wPu_O_ConceptMarker_f_trialLinks (cyI : ClassId) (cyZ : ClassId) (cyO137d0 : ClassId) (X : va_W) (S : wPS) {A : Nat → Prop} {a k : Nat} (hD : va_D A (X ++ va_pl S.L (wPF cyI cyZ cyO137d0 S))) (hL : a ∈ S.L) (h : S.K a = 6) (hk : (X ++ va_pl S.L (wPF cyI cyZ cyO137d0 S))[k]? = some (a, wPF cyI cyZ cyO137d0 S a)) (v : Option Nat) : (X ++ va_pl S.L (wPF cyI cyZ cyO137d0 S)).set k (a, .inr (6, [va_rf (S.O_ConceptMarker.f_pupil a), va_rf (S.O_ConceptMarker.f_maps a), va_rf (S.O_ConceptMarker.f_thesaurus a), va_rf (S.O_ConceptMarker.f_chains a), va_rf (S.O_ConceptMarker.f_holding a), va_rf v, va_rf (S.O_ConceptMarker.f_trialHolding a), va_rf (S.O_ConceptMarker.f_matching a), .int (S.O_ConceptMarker.f_bestLink a), .int (S.O_ConceptMarker.f_bestGain a)])) = X ++ va_pl S.L (wPF cyI cyZ cyO137d0 { S with O_ConceptMarker := { S.O_ConceptMarker with f_trialLinks := va_up S.O_ConceptMarker.f_trialLinks a v } }) := by
  rw [va_pl_set hD hL hk]
  exact congrArg (fun l => X ++ l) (va_pl_congr (wSt_O_ConceptMarker_f_trialLinks cyI cyZ cyO137d0 S h v))
theorem wSt_O_ConceptMarker_f_trialHolding (cyI : ClassId) (cyZ : ClassId) (cyO137d0 : ClassId) (S : wPS) {a : Nat} (h : S.K a = 6) (v : Option Nat) (b : Nat) : va_up (wPF cyI cyZ cyO137d0 S) a (.inr (6, [va_rf (S.O_ConceptMarker.f_pupil a), va_rf (S.O_ConceptMarker.f_maps a), va_rf (S.O_ConceptMarker.f_thesaurus a), va_rf (S.O_ConceptMarker.f_chains a), va_rf (S.O_ConceptMarker.f_holding a), va_rf (S.O_ConceptMarker.f_trialLinks a), va_rf v, va_rf (S.O_ConceptMarker.f_matching a), .int (S.O_ConceptMarker.f_bestLink a), .int (S.O_ConceptMarker.f_bestGain a)])) b = wPF cyI cyZ cyO137d0 { S with O_ConceptMarker := { S.O_ConceptMarker with f_trialHolding := va_up S.O_ConceptMarker.f_trialHolding a v } } b := by by_cases hb : b = a <;> first | (simp only [wPF, va_up_ne _ _ hb]; done) | (simp only [wPF, va_up, if_neg hb]; done) | simp [wPF, va_re, va_up, va_rf, hb, h]
theorem wPu_O_ConceptMarker_f_trialHolding (cyI : ClassId) (cyZ : ClassId) (cyO137d0 : ClassId) (X : va_W) (S : wPS) {A : Nat → Prop} {a k : Nat} (hD : va_D A (X ++ va_pl S.L (wPF cyI cyZ cyO137d0 S))) (hL : a ∈ S.L) (h : S.K a = 6) (hk : (X ++ va_pl S.L (wPF cyI cyZ cyO137d0 S))[k]? = some (a, wPF cyI cyZ cyO137d0 S a)) (v : Option Nat) : (X ++ va_pl S.L (wPF cyI cyZ cyO137d0 S)).set k (a, .inr (6, [va_rf (S.O_ConceptMarker.f_pupil a), va_rf (S.O_ConceptMarker.f_maps a), va_rf (S.O_ConceptMarker.f_thesaurus a), va_rf (S.O_ConceptMarker.f_chains a), va_rf (S.O_ConceptMarker.f_holding a), va_rf (S.O_ConceptMarker.f_trialLinks a), va_rf v, va_rf (S.O_ConceptMarker.f_matching a), .int (S.O_ConceptMarker.f_bestLink a), .int (S.O_ConceptMarker.f_bestGain a)])) = X ++ va_pl S.L (wPF cyI cyZ cyO137d0 { S with O_ConceptMarker := { S.O_ConceptMarker with f_trialHolding := va_up S.O_ConceptMarker.f_trialHolding a v } }) := by
  rw [va_pl_set hD hL hk]
  exact congrArg (fun l => X ++ l) (va_pl_congr (wSt_O_ConceptMarker_f_trialHolding cyI cyZ cyO137d0 S h v))
theorem wSt_O_ConceptMarker_f_matching (cyI : ClassId) (cyZ : ClassId) (cyO137d0 : ClassId) (S : wPS) {a : Nat} (h : S.K a = 6) (v : Option Nat) (b : Nat) : va_up (wPF cyI cyZ cyO137d0 S) a (.inr (6, [va_rf (S.O_ConceptMarker.f_pupil a), va_rf (S.O_ConceptMarker.f_maps a), va_rf (S.O_ConceptMarker.f_thesaurus a), va_rf (S.O_ConceptMarker.f_chains a), va_rf (S.O_ConceptMarker.f_holding a), va_rf (S.O_ConceptMarker.f_trialLinks a), va_rf (S.O_ConceptMarker.f_trialHolding a), va_rf v, .int (S.O_ConceptMarker.f_bestLink a), .int (S.O_ConceptMarker.f_bestGain a)])) b = wPF cyI cyZ cyO137d0 { S with O_ConceptMarker := { S.O_ConceptMarker with f_matching := va_up S.O_ConceptMarker.f_matching a v } } b := by by_cases hb : b = a <;> first | (simp only [wPF, va_up_ne _ _ hb]; done) | (simp only [wPF, va_up, if_neg hb]; done) | simp [wPF, va_re, va_up, va_rf, hb, h]
theorem wPu_O_ConceptMarker_f_matching (cyI : ClassId) (cyZ : ClassId) (cyO137d0 : ClassId) (X : va_W) (S : wPS) {A : Nat → Prop} {a k : Nat} (hD : va_D A (X ++ va_pl S.L (wPF cyI cyZ cyO137d0 S))) (hL : a ∈ S.L) (h : S.K a = 6) (hk : (X ++ va_pl S.L (wPF cyI cyZ cyO137d0 S))[k]? = some (a, wPF cyI cyZ cyO137d0 S a)) (v : Option Nat) : (X ++ va_pl S.L (wPF cyI cyZ cyO137d0 S)).set k (a, .inr (6, [va_rf (S.O_ConceptMarker.f_pupil a), va_rf (S.O_ConceptMarker.f_maps a), va_rf (S.O_ConceptMarker.f_thesaurus a), va_rf (S.O_ConceptMarker.f_chains a), va_rf (S.O_ConceptMarker.f_holding a), va_rf (S.O_ConceptMarker.f_trialLinks a), va_rf (S.O_ConceptMarker.f_trialHolding a), va_rf v, .int (S.O_ConceptMarker.f_bestLink a), .int (S.O_ConceptMarker.f_bestGain a)])) = X ++ va_pl S.L (wPF cyI cyZ cyO137d0 { S with O_ConceptMarker := { S.O_ConceptMarker with f_matching := va_up S.O_ConceptMarker.f_matching a v } }) := by
  rw [va_pl_set hD hL hk]
  exact congrArg (fun l => X ++ l) (va_pl_congr (wSt_O_ConceptMarker_f_matching cyI cyZ cyO137d0 S h v))
theorem wSt_O_ConceptMarker_f_bestLink (cyI : ClassId) (cyZ : ClassId) (cyO137d0 : ClassId) (S : wPS) {a : Nat} (h : S.K a = 6) (v : Int32) (b : Nat) : va_up (wPF cyI cyZ cyO137d0 S) a (.inr (6, [va_rf (S.O_ConceptMarker.f_pupil a), va_rf (S.O_ConceptMarker.f_maps a), va_rf (S.O_ConceptMarker.f_thesaurus a), va_rf (S.O_ConceptMarker.f_chains a), va_rf (S.O_ConceptMarker.f_holding a), va_rf (S.O_ConceptMarker.f_trialLinks a), va_rf (S.O_ConceptMarker.f_trialHolding a), va_rf (S.O_ConceptMarker.f_matching a), .int v, .int (S.O_ConceptMarker.f_bestGain a)])) b = wPF cyI cyZ cyO137d0 { S with O_ConceptMarker := { S.O_ConceptMarker with f_bestLink := va_up S.O_ConceptMarker.f_bestLink a v } } b := by by_cases hb : b = a <;> first | (simp only [wPF, va_up_ne _ _ hb]; done) | (simp only [wPF, va_up, if_neg hb]; done) | simp [wPF, va_re, va_up, va_rf, hb, h]
theorem wPu_O_ConceptMarker_f_bestLink (cyI : ClassId) (cyZ : ClassId) (cyO137d0 : ClassId) (X : va_W) (S : wPS) {A : Nat → Prop} {a k : Nat} (hD : va_D A (X ++ va_pl S.L (wPF cyI cyZ cyO137d0 S))) (hL : a ∈ S.L) (h : S.K a = 6) (hk : (X ++ va_pl S.L (wPF cyI cyZ cyO137d0 S))[k]? = some (a, wPF cyI cyZ cyO137d0 S a)) (v : Int32) : (X ++ va_pl S.L (wPF cyI cyZ cyO137d0 S)).set k (a, .inr (6, [va_rf (S.O_ConceptMarker.f_pupil a), va_rf (S.O_ConceptMarker.f_maps a), va_rf (S.O_ConceptMarker.f_thesaurus a), va_rf (S.O_ConceptMarker.f_chains a), va_rf (S.O_ConceptMarker.f_holding a), va_rf (S.O_ConceptMarker.f_trialLinks a), va_rf (S.O_ConceptMarker.f_trialHolding a), va_rf (S.O_ConceptMarker.f_matching a), .int v, .int (S.O_ConceptMarker.f_bestGain a)])) = X ++ va_pl S.L (wPF cyI cyZ cyO137d0 { S with O_ConceptMarker := { S.O_ConceptMarker with f_bestLink := va_up S.O_ConceptMarker.f_bestLink a v } }) := by
  rw [va_pl_set hD hL hk]
  exact congrArg (fun l => X ++ l) (va_pl_congr (wSt_O_ConceptMarker_f_bestLink cyI cyZ cyO137d0 S h v))
theorem wSt_O_ConceptMarker_f_bestGain (cyI : ClassId) (cyZ : ClassId) (cyO137d0 : ClassId) (S : wPS) {a : Nat} (h : S.K a = 6) (v : Int32) (b : Nat) : va_up (wPF cyI cyZ cyO137d0 S) a (.inr (6, [va_rf (S.O_ConceptMarker.f_pupil a), va_rf (S.O_ConceptMarker.f_maps a), va_rf (S.O_ConceptMarker.f_thesaurus a), va_rf (S.O_ConceptMarker.f_chains a), va_rf (S.O_ConceptMarker.f_holding a), va_rf (S.O_ConceptMarker.f_trialLinks a), va_rf (S.O_ConceptMarker.f_trialHolding a), va_rf (S.O_ConceptMarker.f_matching a), .int (S.O_ConceptMarker.f_bestLink a), .int v])) b = wPF cyI cyZ cyO137d0 { S with O_ConceptMarker := { S.O_ConceptMarker with f_bestGain := va_up S.O_ConceptMarker.f_bestGain a v } } b := by by_cases hb : b = a <;> first | (simp only [wPF, va_up_ne _ _ hb]; done) | (simp only [wPF, va_up, if_neg hb]; done) | simp [wPF, va_re, va_up, va_rf, hb, h]
theorem wPu_O_ConceptMarker_f_bestGain (cyI : ClassId) (cyZ : ClassId) (cyO137d0 : ClassId) (X : va_W) (S : wPS) {A : Nat → Prop} {a k : Nat} (hD : va_D A (X ++ va_pl S.L (wPF cyI cyZ cyO137d0 S))) (hL : a ∈ S.L) (h : S.K a = 6) (hk : (X ++ va_pl S.L (wPF cyI cyZ cyO137d0 S))[k]? = some (a, wPF cyI cyZ cyO137d0 S a)) (v : Int32) : (X ++ va_pl S.L (wPF cyI cyZ cyO137d0 S)).set k (a, .inr (6, [va_rf (S.O_ConceptMarker.f_pupil a), va_rf (S.O_ConceptMarker.f_maps a), va_rf (S.O_ConceptMarker.f_thesaurus a), va_rf (S.O_ConceptMarker.f_chains a), va_rf (S.O_ConceptMarker.f_holding a), va_rf (S.O_ConceptMarker.f_trialLinks a), va_rf (S.O_ConceptMarker.f_trialHolding a), va_rf (S.O_ConceptMarker.f_matching a), .int (S.O_ConceptMarker.f_bestLink a), .int v])) = X ++ va_pl S.L (wPF cyI cyZ cyO137d0 { S with O_ConceptMarker := { S.O_ConceptMarker with f_bestGain := va_up S.O_ConceptMarker.f_bestGain a v } }) := by
  rw [va_pl_set hD hL hk]
  exact congrArg (fun l => X ++ l) (va_pl_congr (wSt_O_ConceptMarker_f_bestGain cyI cyZ cyO137d0 S h v))
theorem wNw_O_ConceptMarker (cyI : ClassId) (cyZ : ClassId) (cyO137d0 : ClassId) (S : wPS) (a b : Nat) : va_up (wPF cyI cyZ cyO137d0 S) a (.inr (6, [.null, .null, .null, .null, .null, .null, .null, .null, .int 0, .int 0])) b = wPF cyI cyZ cyO137d0 { S with L := S.L ++ [a], K := va_up S.K a 6, O_ConceptMarker := { f_pupil := va_up S.O_ConceptMarker.f_pupil a none, f_maps := va_up S.O_ConceptMarker.f_maps a none, f_thesaurus := va_up S.O_ConceptMarker.f_thesaurus a none, f_chains := va_up S.O_ConceptMarker.f_chains a none, f_holding := va_up S.O_ConceptMarker.f_holding a none, f_trialLinks := va_up S.O_ConceptMarker.f_trialLinks a none, f_trialHolding := va_up S.O_ConceptMarker.f_trialHolding a none, f_matching := va_up S.O_ConceptMarker.f_matching a none, f_bestLink := va_up S.O_ConceptMarker.f_bestLink a 0, f_bestGain := va_up S.O_ConceptMarker.f_bestGain a 0 } } b := by by_cases hb : b = a <;> first | (simp only [wPF, va_up_ne _ _ hb]; done) | (simp only [wPF, va_up, if_neg hb]; done) | simp [wPF, va_re, va_up, va_rf, hb]
theorem wPn_O_ConceptMarker (cyI : ClassId) (cyZ : ClassId) (cyO137d0 : ClassId) (X : va_W) (S : wPS) {a : Nat} (ha : a ∉ S.L) : (X ++ va_pl S.L (wPF cyI cyZ cyO137d0 S)) ++ [(a, .inr (6, [.null, .null, .null, .null, .null, .null, .null, .null, .int 0, .int 0]))] = X ++ va_pl (S.L ++ [a]) (wPF cyI cyZ cyO137d0 { S with L := S.L ++ [a], K := va_up S.K a 6, O_ConceptMarker := { f_pupil := va_up S.O_ConceptMarker.f_pupil a none, f_maps := va_up S.O_ConceptMarker.f_maps a none, f_thesaurus := va_up S.O_ConceptMarker.f_thesaurus a none, f_chains := va_up S.O_ConceptMarker.f_chains a none, f_holding := va_up S.O_ConceptMarker.f_holding a none, f_trialLinks := va_up S.O_ConceptMarker.f_trialLinks a none, f_trialHolding := va_up S.O_ConceptMarker.f_trialHolding a none, f_matching := va_up S.O_ConceptMarker.f_matching a none, f_bestLink := va_up S.O_ConceptMarker.f_bestLink a 0, f_bestGain := va_up S.O_ConceptMarker.f_bestGain a 0 } }) := by
  rw [List.append_assoc, va_pl_push ha]
  exact congrArg (fun l => X ++ l) (va_pl_congr (wNw_O_ConceptMarker cyI cyZ cyO137d0 S a))
theorem wAt_O_ConceptMarkerModel (cyI : ClassId) (cyZ : ClassId) (cyO137d0 : ClassId) (S : wPS) {a : Nat} (h : S.K a = 7) : wPF cyI cyZ cyO137d0 S a = .inr (7, [va_rf (S.O_ConceptMarkerModel.f_ideas a), va_rf (S.O_ConceptMarkerModel.f_word a), va_rf (S.O_ConceptMarkerModel.f_has a), va_rf (S.O_ConceptMarkerModel.f_holds a), va_rf (S.O_ConceptMarkerModel.f_group a), va_rf (S.O_ConceptMarkerModel.f_chain a), va_rf (S.O_ConceptMarkerModel.f_match a), va_rf (S.O_ConceptMarkerModel.f_best a), va_rf (S.O_ConceptMarkerModel.f_back a), .int (S.O_ConceptMarkerModel.f_hinted a), .int (S.O_ConceptMarkerModel.f_gained a), .int (S.O_ConceptMarkerModel.f_thrown a)]) := by simp [wPF, h]
theorem wGt_O_ConceptMarkerModel (cyI : ClassId) (cyZ : ClassId) (cyO137d0 : ClassId) (X : va_W) (S : wPS) {a : Nat} (hL : a ∈ S.L) (h : S.K a = 7) : ∃ k : Nat, (X ++ va_pl S.L (wPF cyI cyZ cyO137d0 S))[k]? = some (a, wPF cyI cyZ cyO137d0 S a) ∧ (X ++ va_pl S.L (wPF cyI cyZ cyO137d0 S))[k]? = some (a, .inr (7, [va_rf (S.O_ConceptMarkerModel.f_ideas a), va_rf (S.O_ConceptMarkerModel.f_word a), va_rf (S.O_ConceptMarkerModel.f_has a), va_rf (S.O_ConceptMarkerModel.f_holds a), va_rf (S.O_ConceptMarkerModel.f_group a), va_rf (S.O_ConceptMarkerModel.f_chain a), va_rf (S.O_ConceptMarkerModel.f_match a), va_rf (S.O_ConceptMarkerModel.f_best a), va_rf (S.O_ConceptMarkerModel.f_back a), .int (S.O_ConceptMarkerModel.f_hinted a), .int (S.O_ConceptMarkerModel.f_gained a), .int (S.O_ConceptMarkerModel.f_thrown a)])) := by
  obtain ⟨k, hk⟩ := va_pl_get (X := X) (f := wPF cyI cyZ cyO137d0 S) hL
  exact ⟨k, hk, hk.trans (congrArg (fun e => some (a, e)) (wAt_O_ConceptMarkerModel cyI cyZ cyO137d0 S h))⟩
theorem wSt_O_ConceptMarkerModel_f_ideas (cyI : ClassId) (cyZ : ClassId) (cyO137d0 : ClassId) (S : wPS) {a : Nat} (h : S.K a = 7) (v : Option Nat) (b : Nat) : va_up (wPF cyI cyZ cyO137d0 S) a (.inr (7, [va_rf v, va_rf (S.O_ConceptMarkerModel.f_word a), va_rf (S.O_ConceptMarkerModel.f_has a), va_rf (S.O_ConceptMarkerModel.f_holds a), va_rf (S.O_ConceptMarkerModel.f_group a), va_rf (S.O_ConceptMarkerModel.f_chain a), va_rf (S.O_ConceptMarkerModel.f_match a), va_rf (S.O_ConceptMarkerModel.f_best a), va_rf (S.O_ConceptMarkerModel.f_back a), .int (S.O_ConceptMarkerModel.f_hinted a), .int (S.O_ConceptMarkerModel.f_gained a), .int (S.O_ConceptMarkerModel.f_thrown a)])) b = wPF cyI cyZ cyO137d0 { S with O_ConceptMarkerModel := { S.O_ConceptMarkerModel with f_ideas := va_up S.O_ConceptMarkerModel.f_ideas a v } } b := by by_cases hb : b = a <;> first | (simp only [wPF, va_up_ne _ _ hb]; done) | (simp only [wPF, va_up, if_neg hb]; done) | simp [wPF, va_re, va_up, va_rf, hb, h]
theorem wPu_O_ConceptMarkerModel_f_ideas (cyI : ClassId) (cyZ : ClassId) (cyO137d0 : ClassId) (X : va_W) (S : wPS) {A : Nat → Prop} {a k : Nat} (hD : va_D A (X ++ va_pl S.L (wPF cyI cyZ cyO137d0 S))) (hL : a ∈ S.L) (h : S.K a = 7) (hk : (X ++ va_pl S.L (wPF cyI cyZ cyO137d0 S))[k]? = some (a, wPF cyI cyZ cyO137d0 S a)) (v : Option Nat) : (X ++ va_pl S.L (wPF cyI cyZ cyO137d0 S)).set k (a, .inr (7, [va_rf v, va_rf (S.O_ConceptMarkerModel.f_word a), va_rf (S.O_ConceptMarkerModel.f_has a), va_rf (S.O_ConceptMarkerModel.f_holds a), va_rf (S.O_ConceptMarkerModel.f_group a), va_rf (S.O_ConceptMarkerModel.f_chain a), va_rf (S.O_ConceptMarkerModel.f_match a), va_rf (S.O_ConceptMarkerModel.f_best a), va_rf (S.O_ConceptMarkerModel.f_back a), .int (S.O_ConceptMarkerModel.f_hinted a), .int (S.O_ConceptMarkerModel.f_gained a), .int (S.O_ConceptMarkerModel.f_thrown a)])) = X ++ va_pl S.L (wPF cyI cyZ cyO137d0 { S with O_ConceptMarkerModel := { S.O_ConceptMarkerModel with f_ideas := va_up S.O_ConceptMarkerModel.f_ideas a v } }) := by
  rw [va_pl_set hD hL hk]
  exact congrArg (fun l => X ++ l) (va_pl_congr (wSt_O_ConceptMarkerModel_f_ideas cyI cyZ cyO137d0 S h v))
theorem wSt_O_ConceptMarkerModel_f_word (cyI : ClassId) (cyZ : ClassId) (cyO137d0 : ClassId) (S : wPS) {a : Nat} (h : S.K a = 7) (v : Option Nat) (b : Nat) : va_up (wPF cyI cyZ cyO137d0 S) a (.inr (7, [va_rf (S.O_ConceptMarkerModel.f_ideas a), va_rf v, va_rf (S.O_ConceptMarkerModel.f_has a), va_rf (S.O_ConceptMarkerModel.f_holds a), va_rf (S.O_ConceptMarkerModel.f_group a), va_rf (S.O_ConceptMarkerModel.f_chain a), va_rf (S.O_ConceptMarkerModel.f_match a), va_rf (S.O_ConceptMarkerModel.f_best a), va_rf (S.O_ConceptMarkerModel.f_back a), .int (S.O_ConceptMarkerModel.f_hinted a), .int (S.O_ConceptMarkerModel.f_gained a), .int (S.O_ConceptMarkerModel.f_thrown a)])) b = wPF cyI cyZ cyO137d0 { S with O_ConceptMarkerModel := { S.O_ConceptMarkerModel with f_word := va_up S.O_ConceptMarkerModel.f_word a v } } b := by by_cases hb : b = a <;> first | (simp only [wPF, va_up_ne _ _ hb]; done) | (simp only [wPF, va_up, if_neg hb]; done) | simp [wPF, va_re, va_up, va_rf, hb, h]
theorem wPu_O_ConceptMarkerModel_f_word (cyI : ClassId) (cyZ : ClassId) (cyO137d0 : ClassId) (X : va_W) (S : wPS) {A : Nat → Prop} {a k : Nat} (hD : va_D A (X ++ va_pl S.L (wPF cyI cyZ cyO137d0 S))) (hL : a ∈ S.L) (h : S.K a = 7) (hk : (X ++ va_pl S.L (wPF cyI cyZ cyO137d0 S))[k]? = some (a, wPF cyI cyZ cyO137d0 S a)) (v : Option Nat) : (X ++ va_pl S.L (wPF cyI cyZ cyO137d0 S)).set k (a, .inr (7, [va_rf (S.O_ConceptMarkerModel.f_ideas a), va_rf v, va_rf (S.O_ConceptMarkerModel.f_has a), va_rf (S.O_ConceptMarkerModel.f_holds a), va_rf (S.O_ConceptMarkerModel.f_group a), va_rf (S.O_ConceptMarkerModel.f_chain a), va_rf (S.O_ConceptMarkerModel.f_match a), va_rf (S.O_ConceptMarkerModel.f_best a), va_rf (S.O_ConceptMarkerModel.f_back a), .int (S.O_ConceptMarkerModel.f_hinted a), .int (S.O_ConceptMarkerModel.f_gained a), .int (S.O_ConceptMarkerModel.f_thrown a)])) = X ++ va_pl S.L (wPF cyI cyZ cyO137d0 { S with O_ConceptMarkerModel := { S.O_ConceptMarkerModel with f_word := va_up S.O_ConceptMarkerModel.f_word a v } }) := by
  rw [va_pl_set hD hL hk]
  exact congrArg (fun l => X ++ l) (va_pl_congr (wSt_O_ConceptMarkerModel_f_word cyI cyZ cyO137d0 S h v))
theorem wSt_O_ConceptMarkerModel_f_has (cyI : ClassId) (cyZ : ClassId) (cyO137d0 : ClassId) (S : wPS) {a : Nat} (h : S.K a = 7) (v : Option Nat) (b : Nat) : va_up (wPF cyI cyZ cyO137d0 S) a (.inr (7, [va_rf (S.O_ConceptMarkerModel.f_ideas a), va_rf (S.O_ConceptMarkerModel.f_word a), va_rf v, va_rf (S.O_ConceptMarkerModel.f_holds a), va_rf (S.O_ConceptMarkerModel.f_group a), va_rf (S.O_ConceptMarkerModel.f_chain a), va_rf (S.O_ConceptMarkerModel.f_match a), va_rf (S.O_ConceptMarkerModel.f_best a), va_rf (S.O_ConceptMarkerModel.f_back a), .int (S.O_ConceptMarkerModel.f_hinted a), .int (S.O_ConceptMarkerModel.f_gained a), .int (S.O_ConceptMarkerModel.f_thrown a)])) b = wPF cyI cyZ cyO137d0 { S with O_ConceptMarkerModel := { S.O_ConceptMarkerModel with f_has := va_up S.O_ConceptMarkerModel.f_has a v } } b := by by_cases hb : b = a <;> first | (simp only [wPF, va_up_ne _ _ hb]; done) | (simp only [wPF, va_up, if_neg hb]; done) | simp [wPF, va_re, va_up, va_rf, hb, h]
theorem wPu_O_ConceptMarkerModel_f_has (cyI : ClassId) (cyZ : ClassId) (cyO137d0 : ClassId) (X : va_W) (S : wPS) {A : Nat → Prop} {a k : Nat} (hD : va_D A (X ++ va_pl S.L (wPF cyI cyZ cyO137d0 S))) (hL : a ∈ S.L) (h : S.K a = 7) (hk : (X ++ va_pl S.L (wPF cyI cyZ cyO137d0 S))[k]? = some (a, wPF cyI cyZ cyO137d0 S a)) (v : Option Nat) : (X ++ va_pl S.L (wPF cyI cyZ cyO137d0 S)).set k (a, .inr (7, [va_rf (S.O_ConceptMarkerModel.f_ideas a), va_rf (S.O_ConceptMarkerModel.f_word a), va_rf v, va_rf (S.O_ConceptMarkerModel.f_holds a), va_rf (S.O_ConceptMarkerModel.f_group a), va_rf (S.O_ConceptMarkerModel.f_chain a), va_rf (S.O_ConceptMarkerModel.f_match a), va_rf (S.O_ConceptMarkerModel.f_best a), va_rf (S.O_ConceptMarkerModel.f_back a), .int (S.O_ConceptMarkerModel.f_hinted a), .int (S.O_ConceptMarkerModel.f_gained a), .int (S.O_ConceptMarkerModel.f_thrown a)])) = X ++ va_pl S.L (wPF cyI cyZ cyO137d0 { S with O_ConceptMarkerModel := { S.O_ConceptMarkerModel with f_has := va_up S.O_ConceptMarkerModel.f_has a v } }) := by
  rw [va_pl_set hD hL hk]
  exact congrArg (fun l => X ++ l) (va_pl_congr (wSt_O_ConceptMarkerModel_f_has cyI cyZ cyO137d0 S h v))
theorem wSt_O_ConceptMarkerModel_f_holds (cyI : ClassId) (cyZ : ClassId) (cyO137d0 : ClassId) (S : wPS) {a : Nat} (h : S.K a = 7) (v : Option Nat) (b : Nat) : va_up (wPF cyI cyZ cyO137d0 S) a (.inr (7, [va_rf (S.O_ConceptMarkerModel.f_ideas a), va_rf (S.O_ConceptMarkerModel.f_word a), va_rf (S.O_ConceptMarkerModel.f_has a), va_rf v, va_rf (S.O_ConceptMarkerModel.f_group a), va_rf (S.O_ConceptMarkerModel.f_chain a), va_rf (S.O_ConceptMarkerModel.f_match a), va_rf (S.O_ConceptMarkerModel.f_best a), va_rf (S.O_ConceptMarkerModel.f_back a), .int (S.O_ConceptMarkerModel.f_hinted a), .int (S.O_ConceptMarkerModel.f_gained a), .int (S.O_ConceptMarkerModel.f_thrown a)])) b = wPF cyI cyZ cyO137d0 { S with O_ConceptMarkerModel := { S.O_ConceptMarkerModel with f_holds := va_up S.O_ConceptMarkerModel.f_holds a v } } b := by by_cases hb : b = a <;> first | (simp only [wPF, va_up_ne _ _ hb]; done) | (simp only [wPF, va_up, if_neg hb]; done) | simp [wPF, va_re, va_up, va_rf, hb, h]
theorem wPu_O_ConceptMarkerModel_f_holds (cyI : ClassId) (cyZ : ClassId) (cyO137d0 : ClassId) (X : va_W) (S : wPS) {A : Nat → Prop} {a k : Nat} (hD : va_D A (X ++ va_pl S.L (wPF cyI cyZ cyO137d0 S))) (hL : a ∈ S.L) (h : S.K a = 7) (hk : (X ++ va_pl S.L (wPF cyI cyZ cyO137d0 S))[k]? = some (a, wPF cyI cyZ cyO137d0 S a)) (v : Option Nat) : (X ++ va_pl S.L (wPF cyI cyZ cyO137d0 S)).set k (a, .inr (7, [va_rf (S.O_ConceptMarkerModel.f_ideas a), va_rf (S.O_ConceptMarkerModel.f_word a), va_rf (S.O_ConceptMarkerModel.f_has a), va_rf v, va_rf (S.O_ConceptMarkerModel.f_group a), va_rf (S.O_ConceptMarkerModel.f_chain a), va_rf (S.O_ConceptMarkerModel.f_match a), va_rf (S.O_ConceptMarkerModel.f_best a), va_rf (S.O_ConceptMarkerModel.f_back a), .int (S.O_ConceptMarkerModel.f_hinted a), .int (S.O_ConceptMarkerModel.f_gained a), .int (S.O_ConceptMarkerModel.f_thrown a)])) = X ++ va_pl S.L (wPF cyI cyZ cyO137d0 { S with O_ConceptMarkerModel := { S.O_ConceptMarkerModel with f_holds := va_up S.O_ConceptMarkerModel.f_holds a v } }) := by
  rw [va_pl_set hD hL hk]
  exact congrArg (fun l => X ++ l) (va_pl_congr (wSt_O_ConceptMarkerModel_f_holds cyI cyZ cyO137d0 S h v))
theorem wSt_O_ConceptMarkerModel_f_group (cyI : ClassId) (cyZ : ClassId) (cyO137d0 : ClassId) (S : wPS) {a : Nat} (h : S.K a = 7) (v : Option Nat) (b : Nat) : va_up (wPF cyI cyZ cyO137d0 S) a (.inr (7, [va_rf (S.O_ConceptMarkerModel.f_ideas a), va_rf (S.O_ConceptMarkerModel.f_word a), va_rf (S.O_ConceptMarkerModel.f_has a), va_rf (S.O_ConceptMarkerModel.f_holds a), va_rf v, va_rf (S.O_ConceptMarkerModel.f_chain a), va_rf (S.O_ConceptMarkerModel.f_match a), va_rf (S.O_ConceptMarkerModel.f_best a), va_rf (S.O_ConceptMarkerModel.f_back a), .int (S.O_ConceptMarkerModel.f_hinted a), .int (S.O_ConceptMarkerModel.f_gained a), .int (S.O_ConceptMarkerModel.f_thrown a)])) b = wPF cyI cyZ cyO137d0 { S with O_ConceptMarkerModel := { S.O_ConceptMarkerModel with f_group := va_up S.O_ConceptMarkerModel.f_group a v } } b := by by_cases hb : b = a <;> first | (simp only [wPF, va_up_ne _ _ hb]; done) | (simp only [wPF, va_up, if_neg hb]; done) | simp [wPF, va_re, va_up, va_rf, hb, h]
theorem wPu_O_ConceptMarkerModel_f_group (cyI : ClassId) (cyZ : ClassId) (cyO137d0 : ClassId) (X : va_W) (S : wPS) {A : Nat → Prop} {a k : Nat} (hD : va_D A (X ++ va_pl S.L (wPF cyI cyZ cyO137d0 S))) (hL : a ∈ S.L) (h : S.K a = 7) (hk : (X ++ va_pl S.L (wPF cyI cyZ cyO137d0 S))[k]? = some (a, wPF cyI cyZ cyO137d0 S a)) (v : Option Nat) : (X ++ va_pl S.L (wPF cyI cyZ cyO137d0 S)).set k (a, .inr (7, [va_rf (S.O_ConceptMarkerModel.f_ideas a), va_rf (S.O_ConceptMarkerModel.f_word a), va_rf (S.O_ConceptMarkerModel.f_has a), va_rf (S.O_ConceptMarkerModel.f_holds a), va_rf v, va_rf (S.O_ConceptMarkerModel.f_chain a), va_rf (S.O_ConceptMarkerModel.f_match a), va_rf (S.O_ConceptMarkerModel.f_best a), va_rf (S.O_ConceptMarkerModel.f_back a), .int (S.O_ConceptMarkerModel.f_hinted a), .int (S.O_ConceptMarkerModel.f_gained a), .int (S.O_ConceptMarkerModel.f_thrown a)])) = X ++ va_pl S.L (wPF cyI cyZ cyO137d0 { S with O_ConceptMarkerModel := { S.O_ConceptMarkerModel with f_group := va_up S.O_ConceptMarkerModel.f_group a v } }) := by
  rw [va_pl_set hD hL hk]
  exact congrArg (fun l => X ++ l) (va_pl_congr (wSt_O_ConceptMarkerModel_f_group cyI cyZ cyO137d0 S h v))
theorem wSt_O_ConceptMarkerModel_f_chain (cyI : ClassId) (cyZ : ClassId) (cyO137d0 : ClassId) (S : wPS) {a : Nat} (h : S.K a = 7) (v : Option Nat) (b : Nat) : va_up (wPF cyI cyZ cyO137d0 S) a (.inr (7, [va_rf (S.O_ConceptMarkerModel.f_ideas a), va_rf (S.O_ConceptMarkerModel.f_word a), va_rf (S.O_ConceptMarkerModel.f_has a), va_rf (S.O_ConceptMarkerModel.f_holds a), va_rf (S.O_ConceptMarkerModel.f_group a), va_rf v, va_rf (S.O_ConceptMarkerModel.f_match a), va_rf (S.O_ConceptMarkerModel.f_best a), va_rf (S.O_ConceptMarkerModel.f_back a), .int (S.O_ConceptMarkerModel.f_hinted a), .int (S.O_ConceptMarkerModel.f_gained a), .int (S.O_ConceptMarkerModel.f_thrown a)])) b = wPF cyI cyZ cyO137d0 { S with O_ConceptMarkerModel := { S.O_ConceptMarkerModel with f_chain := va_up S.O_ConceptMarkerModel.f_chain a v } } b := by by_cases hb : b = a <;> first | (simp only [wPF, va_up_ne _ _ hb]; done) | (simp only [wPF, va_up, if_neg hb]; done) | simp [wPF, va_re, va_up, va_rf, hb, h]
theorem wPu_O_ConceptMarkerModel_f_chain (cyI : ClassId) (cyZ : ClassId) (cyO137d0 : ClassId) (X : va_W) (S : wPS) {A : Nat → Prop} {a k : Nat} (hD : va_D A (X ++ va_pl S.L (wPF cyI cyZ cyO137d0 S))) (hL : a ∈ S.L) (h : S.K a = 7) (hk : (X ++ va_pl S.L (wPF cyI cyZ cyO137d0 S))[k]? = some (a, wPF cyI cyZ cyO137d0 S a)) (v : Option Nat) : (X ++ va_pl S.L (wPF cyI cyZ cyO137d0 S)).set k (a, .inr (7, [va_rf (S.O_ConceptMarkerModel.f_ideas a), va_rf (S.O_ConceptMarkerModel.f_word a), va_rf (S.O_ConceptMarkerModel.f_has a), va_rf (S.O_ConceptMarkerModel.f_holds a), va_rf (S.O_ConceptMarkerModel.f_group a), va_rf v, va_rf (S.O_ConceptMarkerModel.f_match a), va_rf (S.O_ConceptMarkerModel.f_best a), va_rf (S.O_ConceptMarkerModel.f_back a), .int (S.O_ConceptMarkerModel.f_hinted a), .int (S.O_ConceptMarkerModel.f_gained a), .int (S.O_ConceptMarkerModel.f_thrown a)])) = X ++ va_pl S.L (wPF cyI cyZ cyO137d0 { S with O_ConceptMarkerModel := { S.O_ConceptMarkerModel with f_chain := va_up S.O_ConceptMarkerModel.f_chain a v } }) := by
  rw [va_pl_set hD hL hk]
  exact congrArg (fun l => X ++ l) (va_pl_congr (wSt_O_ConceptMarkerModel_f_chain cyI cyZ cyO137d0 S h v))
theorem wSt_O_ConceptMarkerModel_f_match (cyI : ClassId) (cyZ : ClassId) (cyO137d0 : ClassId) (S : wPS) {a : Nat} (h : S.K a = 7) (v : Option Nat) (b : Nat) : va_up (wPF cyI cyZ cyO137d0 S) a (.inr (7, [va_rf (S.O_ConceptMarkerModel.f_ideas a), va_rf (S.O_ConceptMarkerModel.f_word a), va_rf (S.O_ConceptMarkerModel.f_has a), va_rf (S.O_ConceptMarkerModel.f_holds a), va_rf (S.O_ConceptMarkerModel.f_group a), va_rf (S.O_ConceptMarkerModel.f_chain a), va_rf v, va_rf (S.O_ConceptMarkerModel.f_best a), va_rf (S.O_ConceptMarkerModel.f_back a), .int (S.O_ConceptMarkerModel.f_hinted a), .int (S.O_ConceptMarkerModel.f_gained a), .int (S.O_ConceptMarkerModel.f_thrown a)])) b = wPF cyI cyZ cyO137d0 { S with O_ConceptMarkerModel := { S.O_ConceptMarkerModel with f_match := va_up S.O_ConceptMarkerModel.f_match a v } } b := by by_cases hb : b = a <;> first | (simp only [wPF, va_up_ne _ _ hb]; done) | (simp only [wPF, va_up, if_neg hb]; done) | simp [wPF, va_re, va_up, va_rf, hb, h]
theorem wPu_O_ConceptMarkerModel_f_match (cyI : ClassId) (cyZ : ClassId) (cyO137d0 : ClassId) (X : va_W) (S : wPS) {A : Nat → Prop} {a k : Nat} (hD : va_D A (X ++ va_pl S.L (wPF cyI cyZ cyO137d0 S))) (hL : a ∈ S.L) (h : S.K a = 7) (hk : (X ++ va_pl S.L (wPF cyI cyZ cyO137d0 S))[k]? = some (a, wPF cyI cyZ cyO137d0 S a)) (v : Option Nat) : (X ++ va_pl S.L (wPF cyI cyZ cyO137d0 S)).set k (a, .inr (7, [va_rf (S.O_ConceptMarkerModel.f_ideas a), va_rf (S.O_ConceptMarkerModel.f_word a), va_rf (S.O_ConceptMarkerModel.f_has a), va_rf (S.O_ConceptMarkerModel.f_holds a), va_rf (S.O_ConceptMarkerModel.f_group a), va_rf (S.O_ConceptMarkerModel.f_chain a), va_rf v, va_rf (S.O_ConceptMarkerModel.f_best a), va_rf (S.O_ConceptMarkerModel.f_back a), .int (S.O_ConceptMarkerModel.f_hinted a), .int (S.O_ConceptMarkerModel.f_gained a), .int (S.O_ConceptMarkerModel.f_thrown a)])) = X ++ va_pl S.L (wPF cyI cyZ cyO137d0 { S with O_ConceptMarkerModel := { S.O_ConceptMarkerModel with f_match := va_up S.O_ConceptMarkerModel.f_match a v } }) := by
  rw [va_pl_set hD hL hk]
  exact congrArg (fun l => X ++ l) (va_pl_congr (wSt_O_ConceptMarkerModel_f_match cyI cyZ cyO137d0 S h v))
theorem wSt_O_ConceptMarkerModel_f_best (cyI : ClassId) (cyZ : ClassId) (cyO137d0 : ClassId) (S : wPS) {a : Nat} (h : S.K a = 7) (v : Option Nat) (b : Nat) : va_up (wPF cyI cyZ cyO137d0 S) a (.inr (7, [va_rf (S.O_ConceptMarkerModel.f_ideas a), va_rf (S.O_ConceptMarkerModel.f_word a), va_rf (S.O_ConceptMarkerModel.f_has a), va_rf (S.O_ConceptMarkerModel.f_holds a), va_rf (S.O_ConceptMarkerModel.f_group a), va_rf (S.O_ConceptMarkerModel.f_chain a), va_rf (S.O_ConceptMarkerModel.f_match a), va_rf v, va_rf (S.O_ConceptMarkerModel.f_back a), .int (S.O_ConceptMarkerModel.f_hinted a), .int (S.O_ConceptMarkerModel.f_gained a), .int (S.O_ConceptMarkerModel.f_thrown a)])) b = wPF cyI cyZ cyO137d0 { S with O_ConceptMarkerModel := { S.O_ConceptMarkerModel with f_best := va_up S.O_ConceptMarkerModel.f_best a v } } b := by by_cases hb : b = a <;> first | (simp only [wPF, va_up_ne _ _ hb]; done) | (simp only [wPF, va_up, if_neg hb]; done) | simp [wPF, va_re, va_up, va_rf, hb, h]
theorem wPu_O_ConceptMarkerModel_f_best (cyI : ClassId) (cyZ : ClassId) (cyO137d0 : ClassId) (X : va_W) (S : wPS) {A : Nat → Prop} {a k : Nat} (hD : va_D A (X ++ va_pl S.L (wPF cyI cyZ cyO137d0 S))) (hL : a ∈ S.L) (h : S.K a = 7) (hk : (X ++ va_pl S.L (wPF cyI cyZ cyO137d0 S))[k]? = some (a, wPF cyI cyZ cyO137d0 S a)) (v : Option Nat) : (X ++ va_pl S.L (wPF cyI cyZ cyO137d0 S)).set k (a, .inr (7, [va_rf (S.O_ConceptMarkerModel.f_ideas a), va_rf (S.O_ConceptMarkerModel.f_word a), va_rf (S.O_ConceptMarkerModel.f_has a), va_rf (S.O_ConceptMarkerModel.f_holds a), va_rf (S.O_ConceptMarkerModel.f_group a), va_rf (S.O_ConceptMarkerModel.f_chain a), va_rf (S.O_ConceptMarkerModel.f_match a), va_rf v, va_rf (S.O_ConceptMarkerModel.f_back a), .int (S.O_ConceptMarkerModel.f_hinted a), .int (S.O_ConceptMarkerModel.f_gained a), .int (S.O_ConceptMarkerModel.f_thrown a)])) = X ++ va_pl S.L (wPF cyI cyZ cyO137d0 { S with O_ConceptMarkerModel := { S.O_ConceptMarkerModel with f_best := va_up S.O_ConceptMarkerModel.f_best a v } }) := by
  rw [va_pl_set hD hL hk]
  exact congrArg (fun l => X ++ l) (va_pl_congr (wSt_O_ConceptMarkerModel_f_best cyI cyZ cyO137d0 S h v))
theorem wSt_O_ConceptMarkerModel_f_back (cyI : ClassId) (cyZ : ClassId) (cyO137d0 : ClassId) (S : wPS) {a : Nat} (h : S.K a = 7) (v : Option Nat) (b : Nat) : va_up (wPF cyI cyZ cyO137d0 S) a (.inr (7, [va_rf (S.O_ConceptMarkerModel.f_ideas a), va_rf (S.O_ConceptMarkerModel.f_word a), va_rf (S.O_ConceptMarkerModel.f_has a), va_rf (S.O_ConceptMarkerModel.f_holds a), va_rf (S.O_ConceptMarkerModel.f_group a), va_rf (S.O_ConceptMarkerModel.f_chain a), va_rf (S.O_ConceptMarkerModel.f_match a), va_rf (S.O_ConceptMarkerModel.f_best a), va_rf v, .int (S.O_ConceptMarkerModel.f_hinted a), .int (S.O_ConceptMarkerModel.f_gained a), .int (S.O_ConceptMarkerModel.f_thrown a)])) b = wPF cyI cyZ cyO137d0 { S with O_ConceptMarkerModel := { S.O_ConceptMarkerModel with f_back := va_up S.O_ConceptMarkerModel.f_back a v } } b := by by_cases hb : b = a <;> first | (simp only [wPF, va_up_ne _ _ hb]; done) | (simp only [wPF, va_up, if_neg hb]; done) | simp [wPF, va_re, va_up, va_rf, hb, h]
theorem wPu_O_ConceptMarkerModel_f_back (cyI : ClassId) (cyZ : ClassId) (cyO137d0 : ClassId) (X : va_W) (S : wPS) {A : Nat → Prop} {a k : Nat} (hD : va_D A (X ++ va_pl S.L (wPF cyI cyZ cyO137d0 S))) (hL : a ∈ S.L) (h : S.K a = 7) (hk : (X ++ va_pl S.L (wPF cyI cyZ cyO137d0 S))[k]? = some (a, wPF cyI cyZ cyO137d0 S a)) (v : Option Nat) : (X ++ va_pl S.L (wPF cyI cyZ cyO137d0 S)).set k (a, .inr (7, [va_rf (S.O_ConceptMarkerModel.f_ideas a), va_rf (S.O_ConceptMarkerModel.f_word a), va_rf (S.O_ConceptMarkerModel.f_has a), va_rf (S.O_ConceptMarkerModel.f_holds a), va_rf (S.O_ConceptMarkerModel.f_group a), va_rf (S.O_ConceptMarkerModel.f_chain a), va_rf (S.O_ConceptMarkerModel.f_match a), va_rf (S.O_ConceptMarkerModel.f_best a), va_rf v, .int (S.O_ConceptMarkerModel.f_hinted a), .int (S.O_ConceptMarkerModel.f_gained a), .int (S.O_ConceptMarkerModel.f_thrown a)])) = X ++ va_pl S.L (wPF cyI cyZ cyO137d0 { S with O_ConceptMarkerModel := { S.O_ConceptMarkerModel with f_back := va_up S.O_ConceptMarkerModel.f_back a v } }) := by
  rw [va_pl_set hD hL hk]
  exact congrArg (fun l => X ++ l) (va_pl_congr (wSt_O_ConceptMarkerModel_f_back cyI cyZ cyO137d0 S h v))
theorem wSt_O_ConceptMarkerModel_f_hinted (cyI : ClassId) (cyZ : ClassId) (cyO137d0 : ClassId) (S : wPS) {a : Nat} (h : S.K a = 7) (v : Int32) (b : Nat) : va_up (wPF cyI cyZ cyO137d0 S) a (.inr (7, [va_rf (S.O_ConceptMarkerModel.f_ideas a), va_rf (S.O_ConceptMarkerModel.f_word a), va_rf (S.O_ConceptMarkerModel.f_has a), va_rf (S.O_ConceptMarkerModel.f_holds a), va_rf (S.O_ConceptMarkerModel.f_group a), va_rf (S.O_ConceptMarkerModel.f_chain a), va_rf (S.O_ConceptMarkerModel.f_match a), va_rf (S.O_ConceptMarkerModel.f_best a), va_rf (S.O_ConceptMarkerModel.f_back a), .int v, .int (S.O_ConceptMarkerModel.f_gained a), .int (S.O_ConceptMarkerModel.f_thrown a)])) b = wPF cyI cyZ cyO137d0 { S with O_ConceptMarkerModel := { S.O_ConceptMarkerModel with f_hinted := va_up S.O_ConceptMarkerModel.f_hinted a v } } b := by by_cases hb : b = a <;> first | (simp only [wPF, va_up_ne _ _ hb]; done) | (simp only [wPF, va_up, if_neg hb]; done) | simp [wPF, va_re, va_up, va_rf, hb, h]
theorem wPu_O_ConceptMarkerModel_f_hinted (cyI : ClassId) (cyZ : ClassId) (cyO137d0 : ClassId) (X : va_W) (S : wPS) {A : Nat → Prop} {a k : Nat} (hD : va_D A (X ++ va_pl S.L (wPF cyI cyZ cyO137d0 S))) (hL : a ∈ S.L) (h : S.K a = 7) (hk : (X ++ va_pl S.L (wPF cyI cyZ cyO137d0 S))[k]? = some (a, wPF cyI cyZ cyO137d0 S a)) (v : Int32) : (X ++ va_pl S.L (wPF cyI cyZ cyO137d0 S)).set k (a, .inr (7, [va_rf (S.O_ConceptMarkerModel.f_ideas a), va_rf (S.O_ConceptMarkerModel.f_word a), va_rf (S.O_ConceptMarkerModel.f_has a), va_rf (S.O_ConceptMarkerModel.f_holds a), va_rf (S.O_ConceptMarkerModel.f_group a), va_rf (S.O_ConceptMarkerModel.f_chain a), va_rf (S.O_ConceptMarkerModel.f_match a), va_rf (S.O_ConceptMarkerModel.f_best a), va_rf (S.O_ConceptMarkerModel.f_back a), .int v, .int (S.O_ConceptMarkerModel.f_gained a), .int (S.O_ConceptMarkerModel.f_thrown a)])) = X ++ va_pl S.L (wPF cyI cyZ cyO137d0 { S with O_ConceptMarkerModel := { S.O_ConceptMarkerModel with f_hinted := va_up S.O_ConceptMarkerModel.f_hinted a v } }) := by
  rw [va_pl_set hD hL hk]
  exact congrArg (fun l => X ++ l) (va_pl_congr (wSt_O_ConceptMarkerModel_f_hinted cyI cyZ cyO137d0 S h v))
theorem wSt_O_ConceptMarkerModel_f_gained (cyI : ClassId) (cyZ : ClassId) (cyO137d0 : ClassId) (S : wPS) {a : Nat} (h : S.K a = 7) (v : Int32) (b : Nat) : va_up (wPF cyI cyZ cyO137d0 S) a (.inr (7, [va_rf (S.O_ConceptMarkerModel.f_ideas a), va_rf (S.O_ConceptMarkerModel.f_word a), va_rf (S.O_ConceptMarkerModel.f_has a), va_rf (S.O_ConceptMarkerModel.f_holds a), va_rf (S.O_ConceptMarkerModel.f_group a), va_rf (S.O_ConceptMarkerModel.f_chain a), va_rf (S.O_ConceptMarkerModel.f_match a), va_rf (S.O_ConceptMarkerModel.f_best a), va_rf (S.O_ConceptMarkerModel.f_back a), .int (S.O_ConceptMarkerModel.f_hinted a), .int v, .int (S.O_ConceptMarkerModel.f_thrown a)])) b = wPF cyI cyZ cyO137d0 { S with O_ConceptMarkerModel := { S.O_ConceptMarkerModel with f_gained := va_up S.O_ConceptMarkerModel.f_gained a v } } b := by by_cases hb : b = a <;> first | (simp only [wPF, va_up_ne _ _ hb]; done) | (simp only [wPF, va_up, if_neg hb]; done) | simp [wPF, va_re, va_up, va_rf, hb, h]
theorem wPu_O_ConceptMarkerModel_f_gained (cyI : ClassId) (cyZ : ClassId) (cyO137d0 : ClassId) (X : va_W) (S : wPS) {A : Nat → Prop} {a k : Nat} (hD : va_D A (X ++ va_pl S.L (wPF cyI cyZ cyO137d0 S))) (hL : a ∈ S.L) (h : S.K a = 7) (hk : (X ++ va_pl S.L (wPF cyI cyZ cyO137d0 S))[k]? = some (a, wPF cyI cyZ cyO137d0 S a)) (v : Int32) : (X ++ va_pl S.L (wPF cyI cyZ cyO137d0 S)).set k (a, .inr (7, [va_rf (S.O_ConceptMarkerModel.f_ideas a), va_rf (S.O_ConceptMarkerModel.f_word a), va_rf (S.O_ConceptMarkerModel.f_has a), va_rf (S.O_ConceptMarkerModel.f_holds a), va_rf (S.O_ConceptMarkerModel.f_group a), va_rf (S.O_ConceptMarkerModel.f_chain a), va_rf (S.O_ConceptMarkerModel.f_match a), va_rf (S.O_ConceptMarkerModel.f_best a), va_rf (S.O_ConceptMarkerModel.f_back a), .int (S.O_ConceptMarkerModel.f_hinted a), .int v, .int (S.O_ConceptMarkerModel.f_thrown a)])) = X ++ va_pl S.L (wPF cyI cyZ cyO137d0 { S with O_ConceptMarkerModel := { S.O_ConceptMarkerModel with f_gained := va_up S.O_ConceptMarkerModel.f_gained a v } }) := by
  rw [va_pl_set hD hL hk]
  exact congrArg (fun l => X ++ l) (va_pl_congr (wSt_O_ConceptMarkerModel_f_gained cyI cyZ cyO137d0 S h v))
theorem wSt_O_ConceptMarkerModel_f_thrown (cyI : ClassId) (cyZ : ClassId) (cyO137d0 : ClassId) (S : wPS) {a : Nat} (h : S.K a = 7) (v : Int32) (b : Nat) : va_up (wPF cyI cyZ cyO137d0 S) a (.inr (7, [va_rf (S.O_ConceptMarkerModel.f_ideas a), va_rf (S.O_ConceptMarkerModel.f_word a), va_rf (S.O_ConceptMarkerModel.f_has a), va_rf (S.O_ConceptMarkerModel.f_holds a), va_rf (S.O_ConceptMarkerModel.f_group a), va_rf (S.O_ConceptMarkerModel.f_chain a), va_rf (S.O_ConceptMarkerModel.f_match a), va_rf (S.O_ConceptMarkerModel.f_best a), va_rf (S.O_ConceptMarkerModel.f_back a), .int (S.O_ConceptMarkerModel.f_hinted a), .int (S.O_ConceptMarkerModel.f_gained a), .int v])) b = wPF cyI cyZ cyO137d0 { S with O_ConceptMarkerModel := { S.O_ConceptMarkerModel with f_thrown := va_up S.O_ConceptMarkerModel.f_thrown a v } } b := by by_cases hb : b = a <;> first | (simp only [wPF, va_up_ne _ _ hb]; done) | (simp only [wPF, va_up, if_neg hb]; done) | simp [wPF, va_re, va_up, va_rf, hb, h]
theorem wPu_O_ConceptMarkerModel_f_thrown (cyI : ClassId) (cyZ : ClassId) (cyO137d0 : ClassId) (X : va_W) (S : wPS) {A : Nat → Prop} {a k : Nat} (hD : va_D A (X ++ va_pl S.L (wPF cyI cyZ cyO137d0 S))) (hL : a ∈ S.L) (h : S.K a = 7) (hk : (X ++ va_pl S.L (wPF cyI cyZ cyO137d0 S))[k]? = some (a, wPF cyI cyZ cyO137d0 S a)) (v : Int32) : (X ++ va_pl S.L (wPF cyI cyZ cyO137d0 S)).set k (a, .inr (7, [va_rf (S.O_ConceptMarkerModel.f_ideas a), va_rf (S.O_ConceptMarkerModel.f_word a), va_rf (S.O_ConceptMarkerModel.f_has a), va_rf (S.O_ConceptMarkerModel.f_holds a), va_rf (S.O_ConceptMarkerModel.f_group a), va_rf (S.O_ConceptMarkerModel.f_chain a), va_rf (S.O_ConceptMarkerModel.f_match a), va_rf (S.O_ConceptMarkerModel.f_best a), va_rf (S.O_ConceptMarkerModel.f_back a), .int (S.O_ConceptMarkerModel.f_hinted a), .int (S.O_ConceptMarkerModel.f_gained a), .int v])) = X ++ va_pl S.L (wPF cyI cyZ cyO137d0 { S with O_ConceptMarkerModel := { S.O_ConceptMarkerModel with f_thrown := va_up S.O_ConceptMarkerModel.f_thrown a v } }) := by
  rw [va_pl_set hD hL hk]
  exact congrArg (fun l => X ++ l) (va_pl_congr (wSt_O_ConceptMarkerModel_f_thrown cyI cyZ cyO137d0 S h v))
theorem wNw_O_ConceptMarkerModel (cyI : ClassId) (cyZ : ClassId) (cyO137d0 : ClassId) (S : wPS) (a b : Nat) : va_up (wPF cyI cyZ cyO137d0 S) a (.inr (7, [.null, .null, .null, .null, .null, .null, .null, .null, .null, .int 0, .int 0, .int 0])) b = wPF cyI cyZ cyO137d0 { S with L := S.L ++ [a], K := va_up S.K a 7, O_ConceptMarkerModel := { f_ideas := va_up S.O_ConceptMarkerModel.f_ideas a none, f_word := va_up S.O_ConceptMarkerModel.f_word a none, f_has := va_up S.O_ConceptMarkerModel.f_has a none, f_holds := va_up S.O_ConceptMarkerModel.f_holds a none, f_group := va_up S.O_ConceptMarkerModel.f_group a none, f_chain := va_up S.O_ConceptMarkerModel.f_chain a none, f_match := va_up S.O_ConceptMarkerModel.f_match a none, f_best := va_up S.O_ConceptMarkerModel.f_best a none, f_back := va_up S.O_ConceptMarkerModel.f_back a none, f_hinted := va_up S.O_ConceptMarkerModel.f_hinted a 0, f_gained := va_up S.O_ConceptMarkerModel.f_gained a 0, f_thrown := va_up S.O_ConceptMarkerModel.f_thrown a 0 } } b := by by_cases hb : b = a <;> first | (simp only [wPF, va_up_ne _ _ hb]; done) | (simp only [wPF, va_up, if_neg hb]; done) | simp [wPF, va_re, va_up, va_rf, hb]
theorem wPn_O_ConceptMarkerModel (cyI : ClassId) (cyZ : ClassId) (cyO137d0 : ClassId) (X : va_W) (S : wPS) {a : Nat} (ha : a ∉ S.L) : (X ++ va_pl S.L (wPF cyI cyZ cyO137d0 S)) ++ [(a, .inr (7, [.null, .null, .null, .null, .null, .null, .null, .null, .null, .int 0, .int 0, .int 0]))] = X ++ va_pl (S.L ++ [a]) (wPF cyI cyZ cyO137d0 { S with L := S.L ++ [a], K := va_up S.K a 7, O_ConceptMarkerModel := { f_ideas := va_up S.O_ConceptMarkerModel.f_ideas a none, f_word := va_up S.O_ConceptMarkerModel.f_word a none, f_has := va_up S.O_ConceptMarkerModel.f_has a none, f_holds := va_up S.O_ConceptMarkerModel.f_holds a none, f_group := va_up S.O_ConceptMarkerModel.f_group a none, f_chain := va_up S.O_ConceptMarkerModel.f_chain a none, f_match := va_up S.O_ConceptMarkerModel.f_match a none, f_best := va_up S.O_ConceptMarkerModel.f_best a none, f_back := va_up S.O_ConceptMarkerModel.f_back a none, f_hinted := va_up S.O_ConceptMarkerModel.f_hinted a 0, f_gained := va_up S.O_ConceptMarkerModel.f_gained a 0, f_thrown := va_up S.O_ConceptMarkerModel.f_thrown a 0 } }) := by
  rw [List.append_assoc, va_pl_push ha]
  exact congrArg (fun l => X ++ l) (va_pl_congr (wNw_O_ConceptMarkerModel cyI cyZ cyO137d0 S a))
theorem wAt_R_I (cyI : ClassId) (cyZ : ClassId) (cyO137d0 : ClassId) (S : wPS) {a : Nat} (h : S.K a = 8) : wPF cyI cyZ cyO137d0 S a = .inl (cyI, S.R_I.len a, .inl (S.R_I.row a)) := by simp [wPF, h]
theorem wGt_R_I (cyI : ClassId) (cyZ : ClassId) (cyO137d0 : ClassId) (X : va_W) (S : wPS) {a : Nat} (hL : a ∈ S.L) (h : S.K a = 8) : ∃ k : Nat, (X ++ va_pl S.L (wPF cyI cyZ cyO137d0 S))[k]? = some (a, wPF cyI cyZ cyO137d0 S a) ∧ (X ++ va_pl S.L (wPF cyI cyZ cyO137d0 S))[k]? = some (a, .inl (cyI, S.R_I.len a, .inl (S.R_I.row a))) := by
  obtain ⟨k, hk⟩ := va_pl_get (X := X) (f := wPF cyI cyZ cyO137d0 S) hL
  exact ⟨k, hk, hk.trans (congrArg (fun e => some (a, e)) (wAt_R_I cyI cyZ cyO137d0 S h))⟩
theorem wSt_R_I_row (cyI : ClassId) (cyZ : ClassId) (cyO137d0 : ClassId) (S : wPS) {a : Nat} (h : S.K a = 8) (v : Nat → Int32) (b : Nat) : va_up (wPF cyI cyZ cyO137d0 S) a (.inl (cyI, S.R_I.len a, .inl v)) b = wPF cyI cyZ cyO137d0 { S with R_I := { S.R_I with row := va_up S.R_I.row a v } } b := by by_cases hb : b = a <;> first | (simp only [wPF, va_up_ne _ _ hb]; done) | (simp only [wPF, va_up, if_neg hb]; done) | simp [wPF, va_re, va_up, va_rf, hb, h]
theorem wPu_R_I_row (cyI : ClassId) (cyZ : ClassId) (cyO137d0 : ClassId) (X : va_W) (S : wPS) {A : Nat → Prop} {a k : Nat} (hD : va_D A (X ++ va_pl S.L (wPF cyI cyZ cyO137d0 S))) (hL : a ∈ S.L) (h : S.K a = 8) (hk : (X ++ va_pl S.L (wPF cyI cyZ cyO137d0 S))[k]? = some (a, wPF cyI cyZ cyO137d0 S a)) (v : Nat → Int32) : (X ++ va_pl S.L (wPF cyI cyZ cyO137d0 S)).set k (a, .inl (cyI, S.R_I.len a, .inl v)) = X ++ va_pl S.L (wPF cyI cyZ cyO137d0 { S with R_I := { S.R_I with row := va_up S.R_I.row a v } }) := by
  rw [va_pl_set hD hL hk]
  exact congrArg (fun l => X ++ l) (va_pl_congr (wSt_R_I_row cyI cyZ cyO137d0 S h v))
theorem wNw_R_I (cyI : ClassId) (cyZ : ClassId) (cyO137d0 : ClassId) (S : wPS) (a : Nat) (z : Nat) (f : Nat → Int32) (b : Nat) : va_up (wPF cyI cyZ cyO137d0 S) a (.inl (cyI, z, .inl f)) b = wPF cyI cyZ cyO137d0 { S with L := S.L ++ [a], K := va_up S.K a 8, R_I := { len := va_up S.R_I.len a z, row := va_up S.R_I.row a f } } b := by by_cases hb : b = a <;> first | (simp only [wPF, va_up_ne _ _ hb]; done) | (simp only [wPF, va_up, if_neg hb]; done) | simp [wPF, va_re, va_up, va_rf, hb]
theorem wAt_R_Z (cyI : ClassId) (cyZ : ClassId) (cyO137d0 : ClassId) (S : wPS) {a : Nat} (h : S.K a = 9) : wPF cyI cyZ cyO137d0 S a = .inl (cyZ, S.R_Z.len a, .inl (S.R_Z.row a)) := by simp [wPF, h]
theorem wGt_R_Z (cyI : ClassId) (cyZ : ClassId) (cyO137d0 : ClassId) (X : va_W) (S : wPS) {a : Nat} (hL : a ∈ S.L) (h : S.K a = 9) : ∃ k : Nat, (X ++ va_pl S.L (wPF cyI cyZ cyO137d0 S))[k]? = some (a, wPF cyI cyZ cyO137d0 S a) ∧ (X ++ va_pl S.L (wPF cyI cyZ cyO137d0 S))[k]? = some (a, .inl (cyZ, S.R_Z.len a, .inl (S.R_Z.row a))) := by
  obtain ⟨k, hk⟩ := va_pl_get (X := X) (f := wPF cyI cyZ cyO137d0 S) hL
  exact ⟨k, hk, hk.trans (congrArg (fun e => some (a, e)) (wAt_R_Z cyI cyZ cyO137d0 S h))⟩
theorem wSt_R_Z_row (cyI : ClassId) (cyZ : ClassId) (cyO137d0 : ClassId) (S : wPS) {a : Nat} (h : S.K a = 9) (v : Nat → Int32) (b : Nat) : va_up (wPF cyI cyZ cyO137d0 S) a (.inl (cyZ, S.R_Z.len a, .inl v)) b = wPF cyI cyZ cyO137d0 { S with R_Z := { S.R_Z with row := va_up S.R_Z.row a v } } b := by by_cases hb : b = a <;> first | (simp only [wPF, va_up_ne _ _ hb]; done) | (simp only [wPF, va_up, if_neg hb]; done) | simp [wPF, va_re, va_up, va_rf, hb, h]
theorem wPu_R_Z_row (cyI : ClassId) (cyZ : ClassId) (cyO137d0 : ClassId) (X : va_W) (S : wPS) {A : Nat → Prop} {a k : Nat} (hD : va_D A (X ++ va_pl S.L (wPF cyI cyZ cyO137d0 S))) (hL : a ∈ S.L) (h : S.K a = 9) (hk : (X ++ va_pl S.L (wPF cyI cyZ cyO137d0 S))[k]? = some (a, wPF cyI cyZ cyO137d0 S a)) (v : Nat → Int32) : (X ++ va_pl S.L (wPF cyI cyZ cyO137d0 S)).set k (a, .inl (cyZ, S.R_Z.len a, .inl v)) = X ++ va_pl S.L (wPF cyI cyZ cyO137d0 { S with R_Z := { S.R_Z with row := va_up S.R_Z.row a v } }) := by
  rw [va_pl_set hD hL hk]
  exact congrArg (fun l => X ++ l) (va_pl_congr (wSt_R_Z_row cyI cyZ cyO137d0 S h v))
theorem wNw_R_Z (cyI : ClassId) (cyZ : ClassId) (cyO137d0 : ClassId) (S : wPS) (a : Nat) (z : Nat) (f : Nat → Int32) (b : Nat) : va_up (wPF cyI cyZ cyO137d0 S) a (.inl (cyZ, z, .inl f)) b = wPF cyI cyZ cyO137d0 { S with L := S.L ++ [a], K := va_up S.K a 9, R_Z := { len := va_up S.R_Z.len a z, row := va_up S.R_Z.row a f } } b := by by_cases hb : b = a <;> first | (simp only [wPF, va_up_ne _ _ hb]; done) | (simp only [wPF, va_up, if_neg hb]; done) | simp [wPF, va_re, va_up, va_rf, hb]
theorem wAt_R_ConceptMap (cyI : ClassId) (cyZ : ClassId) (cyO137d0 : ClassId) (S : wPS) {a : Nat} (h : S.K a = 10) : wPF cyI cyZ cyO137d0 S a = .inl (cyO137d0, S.R_ConceptMap.len a, .inr (.inr (.inr (.inr (S.R_ConceptMap.row a))))) := by simp [wPF, h]
theorem wGt_R_ConceptMap (cyI : ClassId) (cyZ : ClassId) (cyO137d0 : ClassId) (X : va_W) (S : wPS) {a : Nat} (hL : a ∈ S.L) (h : S.K a = 10) : ∃ k : Nat, (X ++ va_pl S.L (wPF cyI cyZ cyO137d0 S))[k]? = some (a, wPF cyI cyZ cyO137d0 S a) ∧ (X ++ va_pl S.L (wPF cyI cyZ cyO137d0 S))[k]? = some (a, .inl (cyO137d0, S.R_ConceptMap.len a, .inr (.inr (.inr (.inr (S.R_ConceptMap.row a)))))) := by
  obtain ⟨k, hk⟩ := va_pl_get (X := X) (f := wPF cyI cyZ cyO137d0 S) hL
  exact ⟨k, hk, hk.trans (congrArg (fun e => some (a, e)) (wAt_R_ConceptMap cyI cyZ cyO137d0 S h))⟩
theorem wSt_R_ConceptMap_row (cyI : ClassId) (cyZ : ClassId) (cyO137d0 : ClassId) (S : wPS) {a : Nat} (h : S.K a = 10) (v : Nat → Option Nat) (b : Nat) : va_up (wPF cyI cyZ cyO137d0 S) a (.inl (cyO137d0, S.R_ConceptMap.len a, .inr (.inr (.inr (.inr v))))) b = wPF cyI cyZ cyO137d0 { S with R_ConceptMap := { S.R_ConceptMap with row := va_up S.R_ConceptMap.row a v } } b := by by_cases hb : b = a <;> first | (simp only [wPF, va_up_ne _ _ hb]; done) | (simp only [wPF, va_up, if_neg hb]; done) | simp [wPF, va_re, va_up, va_rf, hb, h]
theorem wPu_R_ConceptMap_row (cyI : ClassId) (cyZ : ClassId) (cyO137d0 : ClassId) (X : va_W) (S : wPS) {A : Nat → Prop} {a k : Nat} (hD : va_D A (X ++ va_pl S.L (wPF cyI cyZ cyO137d0 S))) (hL : a ∈ S.L) (h : S.K a = 10) (hk : (X ++ va_pl S.L (wPF cyI cyZ cyO137d0 S))[k]? = some (a, wPF cyI cyZ cyO137d0 S a)) (v : Nat → Option Nat) : (X ++ va_pl S.L (wPF cyI cyZ cyO137d0 S)).set k (a, .inl (cyO137d0, S.R_ConceptMap.len a, .inr (.inr (.inr (.inr v))))) = X ++ va_pl S.L (wPF cyI cyZ cyO137d0 { S with R_ConceptMap := { S.R_ConceptMap with row := va_up S.R_ConceptMap.row a v } }) := by
  rw [va_pl_set hD hL hk]
  exact congrArg (fun l => X ++ l) (va_pl_congr (wSt_R_ConceptMap_row cyI cyZ cyO137d0 S h v))
theorem wNw_R_ConceptMap (cyI : ClassId) (cyZ : ClassId) (cyO137d0 : ClassId) (S : wPS) (a : Nat) (z : Nat) (f : Nat → Option Nat) (b : Nat) : va_up (wPF cyI cyZ cyO137d0 S) a (.inl (cyO137d0, z, .inr (.inr (.inr (.inr f))))) b = wPF cyI cyZ cyO137d0 { S with L := S.L ++ [a], K := va_up S.K a 10, R_ConceptMap := { len := va_up S.R_ConceptMap.len a z, row := va_up S.R_ConceptMap.row a f } } b := by by_cases hb : b = a <;> first | (simp only [wPF, va_up_ne _ _ hb]; done) | (simp only [wPF, va_up, if_neg hb]; done) | simp [wPF, va_re, va_up, va_rf, hb]
/-! ===== END printed: names ===== -/

