theorem dX7_turns_23 : decode cX7_turns 23 = .ok (.aload_n 0, 1) := by decide +kernel
theorem dX7_turns_24 : decode cX7_turns 24 = .ok (.getfield 7, 3) := by decide +kernel
theorem dX7_turns_27 : decode cX7_turns 27 = .ok (.iconst 0, 1) := by decide +kernel
theorem dX7_turns_28 : decode cX7_turns 28 = .ok (.iaload, 1) := by decide +kernel
theorem dX7_turns_29 : decode cX7_turns 29 = .ok (.if_icmp .ge 36, 3) := by decide +kernel
theorem dX7_turns_32 : decode cX7_turns 32 = .ok (.aload_n 0, 1) := by decide +kernel
theorem dX7_turns_33 : decode cX7_turns 33 = .ok (.getfield 29, 3) := by decide +kernel
theorem dX7_turns_36 : decode cX7_turns 36 = .ok (.iload_n 2, 1) := by decide +kernel
theorem dX7_turns_37 : decode cX7_turns 37 = .ok (.iaload, 1) := by decide +kernel
theorem dX7_turns_38 : decode cX7_turns 38 = .ok (.aload_n 0, 1) := by decide +kernel
theorem dX7_turns_39 : decode cX7_turns 39 = .ok (.getfield 7, 3) := by decide +kernel
theorem dX7_turns_42 : decode cX7_turns 42 = .ok (.iload_n 1, 1) := by decide +kernel
theorem dX7_turns_43 : decode cX7_turns 43 = .ok (.iaload, 1) := by decide +kernel
theorem dX7_turns_44 : decode cX7_turns 44 = .ok (.if_icmp .ge 15, 3) := by decide +kernel
theorem dX7_turns_47 : decode cX7_turns 47 = .ok (.aload_n 0, 1) := by decide +kernel
theorem dX7_turns_48 : decode cX7_turns 48 = .ok (.getfield 35, 3) := by decide +kernel
theorem dX7_turns_51 : decode cX7_turns 51 = .ok (.aload_n 0, 1) := by decide +kernel
theorem dX7_turns_52 : decode cX7_turns 52 = .ok (.getfield 29, 3) := by decide +kernel
theorem dX7_turns_55 : decode cX7_turns 55 = .ok (.iload_n 2, 1) := by decide +kernel
theorem dX7_turns_56 : decode cX7_turns 56 = .ok (.iaload, 1) := by decide +kernel
theorem dX7_turns_57 : decode cX7_turns 57 = .ok (.iload_n 2, 1) := by decide +kernel
theorem dX7_turns_58 : decode cX7_turns 58 = .ok (.iastore, 1) := by decide +kernel
theorem dX7_turns_59 : decode cX7_turns 59 = .ok (.iinc 2 1, 3) := by decide +kernel
theorem dX7_turns_62 : decode cX7_turns 62 = .ok (.goto (-40), 3) := by decide +kernel
theorem dX7_turns_65 : decode cX7_turns 65 = .ok (.return_, 1) := by decide +kernel
set_option maxRecDepth 20000 in
theorem ggX7_verdictOf_X7_at : GoodIn wsX7_verdictOf wsX7_at := goodIn_r _ [7] (by decide +kernel) (by decide +kernel)
set_option maxRecDepth 20000 in
theorem gX7_verdictOf_X7_at : GoodIn wsX7_verdictOf (va_wsS RX7 68 yX7_at wsX7_at) := goodIn_app (goodIn_of _ (by decide +kernel)) ggX7_verdictOf_X7_at
theorem dX7_verdictOf_0 : decode cX7_verdictOf 0 = .ok (.aload_n 0, 1) := by decide +kernel
theorem dX7_verdictOf_1 : decode cX7_verdictOf 1 = .ok (.getfield 35, 3) := by decide +kernel
theorem dX7_verdictOf_4 : decode cX7_verdictOf 4 = .ok (.iload_n 1, 1) := by decide +kernel
theorem dX7_verdictOf_5 : decode cX7_verdictOf 5 = .ok (.iaload, 1) := by decide +kernel
theorem dX7_verdictOf_6 : decode cX7_verdictOf 6 = .ok (.istore 4, 2) := by decide +kernel
theorem dX7_verdictOf_8 : decode cX7_verdictOf 8 = .ok (.aload_n 0, 1) := by decide +kernel
theorem dX7_verdictOf_9 : decode cX7_verdictOf 9 = .ok (.getfield 35, 3) := by decide +kernel
theorem dX7_verdictOf_12 : decode cX7_verdictOf 12 = .ok (.iload_n 2, 1) := by decide +kernel
theorem dX7_verdictOf_13 : decode cX7_verdictOf 13 = .ok (.iaload, 1) := by decide +kernel
theorem dX7_verdictOf_14 : decode cX7_verdictOf 14 = .ok (.istore 5, 2) := by decide +kernel
theorem dX7_verdictOf_16 : decode cX7_verdictOf 16 = .ok (.iload 4, 2) := by decide +kernel
theorem dX7_verdictOf_18 : decode cX7_verdictOf 18 = .ok (.iconst (-1), 1) := by decide +kernel
theorem dX7_verdictOf_19 : decode cX7_verdictOf 19 = .ok (.if_icmp .eq 9, 3) := by decide +kernel
theorem dX7_verdictOf_22 : decode cX7_verdictOf 22 = .ok (.iload 5, 2) := by decide +kernel
theorem dX7_verdictOf_24 : decode cX7_verdictOf 24 = .ok (.iconst (-1), 1) := by decide +kernel
theorem dX7_verdictOf_25 : decode cX7_verdictOf 25 = .ok (.if_icmp .ne 5, 3) := by decide +kernel
theorem dX7_verdictOf_28 : decode cX7_verdictOf 28 = .ok (.iconst 0, 1) := by decide +kernel
theorem dX7_verdictOf_29 : decode cX7_verdictOf 29 = .ok (.ireturn, 1) := by decide +kernel
theorem dX7_verdictOf_30 : decode cX7_verdictOf 30 = .ok (.iconst 0, 1) := by decide +kernel
theorem dX7_verdictOf_31 : decode cX7_verdictOf 31 = .ok (.istore 6, 2) := by decide +kernel
theorem dX7_verdictOf_33 : decode cX7_verdictOf 33 = .ok (.iconst 0, 1) := by decide +kernel
theorem dX7_verdictOf_34 : decode cX7_verdictOf 34 = .ok (.istore 7, 2) := by decide +kernel
theorem dX7_verdictOf_36 : decode cX7_verdictOf 36 = .ok (.iload 7, 2) := by decide +kernel
theorem dX7_verdictOf_38 : decode cX7_verdictOf 38 = .ok (.iconst 4, 1) := by decide +kernel
theorem dX7_verdictOf_39 : decode cX7_verdictOf 39 = .ok (.if_icmp .ge 39, 3) := by decide +kernel
theorem dX7_verdictOf_42 : decode cX7_verdictOf 42 = .ok (.iload 6, 2) := by decide +kernel
theorem dX7_verdictOf_44 : decode cX7_verdictOf 44 = .ok (.ifCond .ne 21, 3) := by decide +kernel
theorem dX7_verdictOf_47 : decode cX7_verdictOf 47 = .ok (.aload_n 0, 1) := by decide +kernel
theorem dX7_verdictOf_48 : decode cX7_verdictOf 48 = .ok (.getfield 16, 3) := by decide +kernel
theorem dX7_verdictOf_51 : decode cX7_verdictOf 51 = .ok (.iconst 0, 1) := by decide +kernel
theorem dX7_verdictOf_52 : decode cX7_verdictOf 52 = .ok (.iload 4, 2) := by decide +kernel
theorem dX7_verdictOf_54 : decode cX7_verdictOf 54 = .ok (.iload 5, 2) := by decide +kernel
theorem dX7_verdictOf_56 : decode cX7_verdictOf 56 = .ok (.iload 7, 2) := by decide +kernel
theorem dX7_verdictOf_58 : decode cX7_verdictOf 58 = .ok (.invokestatic 68, 3) := by decide +kernel
theorem dX7_verdictOf_61 : decode cX7_verdictOf 61 = .ok (.baload, 1) := by decide +kernel
theorem dX7_verdictOf_62 : decode cX7_verdictOf 62 = .ok (.ifCond .eq 7, 3) := by decide +kernel
theorem dX7_verdictOf_65 : decode cX7_verdictOf 65 = .ok (.iconst 1, 1) := by decide +kernel
theorem dX7_verdictOf_66 : decode cX7_verdictOf 66 = .ok (.goto 4, 3) := by decide +kernel
theorem dX7_verdictOf_69 : decode cX7_verdictOf 69 = .ok (.iconst 0, 1) := by decide +kernel
theorem dX7_verdictOf_70 : decode cX7_verdictOf 70 = .ok (.istore 6, 2) := by decide +kernel
theorem dX7_verdictOf_72 : decode cX7_verdictOf 72 = .ok (.iinc 7 1, 3) := by decide +kernel
theorem dX7_verdictOf_75 : decode cX7_verdictOf 75 = .ok (.goto (-39), 3) := by decide +kernel
theorem dX7_verdictOf_78 : decode cX7_verdictOf 78 = .ok (.aload_n 0, 1) := by decide +kernel
theorem dX7_verdictOf_79 : decode cX7_verdictOf 79 = .ok (.getfield 20, 3) := by decide +kernel
theorem dX7_verdictOf_82 : decode cX7_verdictOf 82 = .ok (.iconst 0, 1) := by decide +kernel
theorem dX7_verdictOf_83 : decode cX7_verdictOf 83 = .ok (.iload 4, 2) := by decide +kernel
theorem dX7_verdictOf_85 : decode cX7_verdictOf 85 = .ok (.iload 5, 2) := by decide +kernel
theorem dX7_verdictOf_87 : decode cX7_verdictOf 87 = .ok (.iload_n 3, 1) := by decide +kernel
theorem dX7_verdictOf_88 : decode cX7_verdictOf 88 = .ok (.invokestatic 68, 3) := by decide +kernel
theorem dX7_verdictOf_91 : decode cX7_verdictOf 91 = .ok (.baload, 1) := by decide +kernel
theorem dX7_verdictOf_92 : decode cX7_verdictOf 92 = .ok (.ifCond .eq 7, 3) := by decide +kernel
theorem dX7_verdictOf_95 : decode cX7_verdictOf 95 = .ok (.iconst 3, 1) := by decide +kernel
theorem dX7_verdictOf_96 : decode cX7_verdictOf 96 = .ok (.goto 34, 3) := by decide +kernel
theorem dX7_verdictOf_99 : decode cX7_verdictOf 99 = .ok (.iload 6, 2) := by decide +kernel
theorem dX7_verdictOf_101 : decode cX7_verdictOf 101 = .ok (.ifCond .eq 7, 3) := by decide +kernel
theorem dX7_verdictOf_104 : decode cX7_verdictOf 104 = .ok (.iconst 2, 1) := by decide +kernel
theorem dX7_verdictOf_105 : decode cX7_verdictOf 105 = .ok (.goto 25, 3) := by decide +kernel
theorem dX7_verdictOf_108 : decode cX7_verdictOf 108 = .ok (.aload_n 0, 1) := by decide +kernel
theorem dX7_verdictOf_109 : decode cX7_verdictOf 109 = .ok (.getfield 16, 3) := by decide +kernel
theorem dX7_verdictOf_112 : decode cX7_verdictOf 112 = .ok (.iconst 0, 1) := by decide +kernel
theorem dX7_verdictOf_113 : decode cX7_verdictOf 113 = .ok (.iload 5, 2) := by decide +kernel
theorem dX7_verdictOf_115 : decode cX7_verdictOf 115 = .ok (.iload 4, 2) := by decide +kernel
theorem dX7_verdictOf_117 : decode cX7_verdictOf 117 = .ok (.iload_n 3, 1) := by decide +kernel
theorem dX7_verdictOf_118 : decode cX7_verdictOf 118 = .ok (.invokestatic 68, 3) := by decide +kernel
theorem dX7_verdictOf_121 : decode cX7_verdictOf 121 = .ok (.baload, 1) := by decide +kernel
theorem dX7_verdictOf_122 : decode cX7_verdictOf 122 = .ok (.ifCond .eq 7, 3) := by decide +kernel
theorem dX7_verdictOf_125 : decode cX7_verdictOf 125 = .ok (.iconst 1, 1) := by decide +kernel
theorem dX7_verdictOf_126 : decode cX7_verdictOf 126 = .ok (.goto 4, 3) := by decide +kernel
theorem dX7_verdictOf_129 : decode cX7_verdictOf 129 = .ok (.iconst 0, 1) := by decide +kernel
theorem dX7_verdictOf_130 : decode cX7_verdictOf 130 = .ok (.ireturn, 1) := by decide +kernel
set_option maxRecDepth 20000 in
theorem ggX7_pointsOf_X7_verdictOf : GoodIn wsX7_pointsOf wsX7_verdictOf := goodIn_r _ [6, 7, 1, 8, 9, 10, 5, 11, 12, 13, 14, 15, 16, 17, 18, 19, 20, 21, 22, 23] (by decide +kernel) (by decide +kernel)
set_option maxRecDepth 20000 in
theorem gX7_pointsOf_X7_verdictOf : GoodIn wsX7_pointsOf (wsV RX7 82 RX7 yX7_verdictOf wsX7_verdictOf) := goodIn_app (goodIn_of _ (by decide +kernel)) ggX7_pointsOf_X7_verdictOf
theorem dX7_pointsOf_0 : decode cX7_pointsOf 0 = .ok (.iconst 0, 1) := by decide +kernel
theorem dX7_pointsOf_1 : decode cX7_pointsOf 1 = .ok (.istore_n 2, 1) := by decide +kernel
theorem dX7_pointsOf_2 : decode cX7_pointsOf 2 = .ok (.iconst 0, 1) := by decide +kernel
theorem dX7_pointsOf_3 : decode cX7_pointsOf 3 = .ok (.istore_n 3, 1) := by decide +kernel
theorem dX7_pointsOf_4 : decode cX7_pointsOf 4 = .ok (.iload_n 3, 1) := by decide +kernel
theorem dX7_pointsOf_5 : decode cX7_pointsOf 5 = .ok (.bipush 100, 2) := by decide +kernel
theorem dX7_pointsOf_7 : decode cX7_pointsOf 7 = .ok (.if_icmp .ge 56, 3) := by decide +kernel
theorem dX7_pointsOf_10 : decode cX7_pointsOf 10 = .ok (.aload_n 0, 1) := by decide +kernel
theorem dX7_pointsOf_11 : decode cX7_pointsOf 11 = .ok (.getfield 16, 3) := by decide +kernel
theorem dX7_pointsOf_14 : decode cX7_pointsOf 14 = .ok (.bipush 100, 2) := by decide +kernel
theorem dX7_pointsOf_16 : decode cX7_pointsOf 16 = .ok (.iload_n 1, 1) := by decide +kernel
theorem dX7_pointsOf_17 : decode cX7_pointsOf 17 = .ok (.imul, 1) := by decide +kernel
theorem dX7_pointsOf_18 : decode cX7_pointsOf 18 = .ok (.iload_n 3, 1) := by decide +kernel
theorem dX7_pointsOf_19 : decode cX7_pointsOf 19 = .ok (.iadd, 1) := by decide +kernel
theorem dX7_pointsOf_20 : decode cX7_pointsOf 20 = .ok (.baload, 1) := by decide +kernel
theorem dX7_pointsOf_21 : decode cX7_pointsOf 21 = .ok (.ifCond .eq 36, 3) := by decide +kernel
theorem dX7_pointsOf_24 : decode cX7_pointsOf 24 = .ok (.aload_n 0, 1) := by decide +kernel
theorem dX7_pointsOf_25 : decode cX7_pointsOf 25 = .ok (.iload_n 3, 1) := by decide +kernel
theorem dX7_pointsOf_26 : decode cX7_pointsOf 26 = .ok (.bipush 20, 2) := by decide +kernel
theorem dX7_pointsOf_28 : decode cX7_pointsOf 28 = .ok (.idiv, 1) := by decide +kernel
theorem dX7_pointsOf_29 : decode cX7_pointsOf 29 = .ok (.iload_n 3, 1) := by decide +kernel
theorem dX7_pointsOf_30 : decode cX7_pointsOf 30 = .ok (.iconst 4, 1) := by decide +kernel
theorem dX7_pointsOf_31 : decode cX7_pointsOf 31 = .ok (.idiv, 1) := by decide +kernel
theorem dX7_pointsOf_32 : decode cX7_pointsOf 32 = .ok (.iconst 5, 1) := by decide +kernel
theorem dX7_pointsOf_33 : decode cX7_pointsOf 33 = .ok (.irem, 1) := by decide +kernel
theorem dX7_pointsOf_34 : decode cX7_pointsOf 34 = .ok (.iload_n 3, 1) := by decide +kernel
theorem dX7_pointsOf_35 : decode cX7_pointsOf 35 = .ok (.iconst 4, 1) := by decide +kernel
theorem dX7_pointsOf_36 : decode cX7_pointsOf 36 = .ok (.irem, 1) := by decide +kernel
theorem dX7_pointsOf_37 : decode cX7_pointsOf 37 = .ok (.invokevirtual 82, 3) := by decide +kernel
theorem dX7_pointsOf_40 : decode cX7_pointsOf 40 = .ok (.istore 4, 2) := by decide +kernel
theorem dX7_pointsOf_42 : decode cX7_pointsOf 42 = .ok (.iload_n 2, 1) := by decide +kernel
theorem dX7_pointsOf_43 : decode cX7_pointsOf 43 = .ok (.iload 4, 2) := by decide +kernel
theorem dX7_pointsOf_45 : decode cX7_pointsOf 45 = .ok (.iconst 3, 1) := by decide +kernel
theorem dX7_pointsOf_46 : decode cX7_pointsOf 46 = .ok (.if_icmp .ne 7, 3) := by decide +kernel
theorem dX7_pointsOf_49 : decode cX7_pointsOf 49 = .ok (.iconst 4, 1) := by decide +kernel
theorem dX7_pointsOf_50 : decode cX7_pointsOf 50 = .ok (.goto 5, 3) := by decide +kernel
theorem dX7_pointsOf_53 : decode cX7_pointsOf 53 = .ok (.iload 4, 2) := by decide +kernel
theorem dX7_pointsOf_55 : decode cX7_pointsOf 55 = .ok (.iadd, 1) := by decide +kernel
theorem dX7_pointsOf_56 : decode cX7_pointsOf 56 = .ok (.istore_n 2, 1) := by decide +kernel
theorem dX7_pointsOf_57 : decode cX7_pointsOf 57 = .ok (.iinc 3 1, 3) := by decide +kernel
theorem dX7_pointsOf_60 : decode cX7_pointsOf 60 = .ok (.goto (-56), 3) := by decide +kernel
theorem dX7_pointsOf_63 : decode cX7_pointsOf 63 = .ok (.iload_n 2, 1) := by decide +kernel
theorem dX7_pointsOf_64 : decode cX7_pointsOf 64 = .ok (.ireturn, 1) := by decide +kernel
set_option maxRecDepth 20000 in
theorem ggX7_most_X7_closes : GoodIn wsX7_most wsX7_closes := goodIn_r _ [8, 9, 10, 11, 12, 13, 7, 14, 15, 16, 17, 18, 38, 39, 40, 41, 42, 43, 44, 45, 46, 47, 48, 49] (by decide +kernel) (by decide +kernel)
set_option maxRecDepth 20000 in
theorem gX7_most_X7_closes : GoodIn wsX7_most (wsV RX7 78 RX7 yX7_closes wsX7_closes) := goodIn_app (goodIn_of _ (by decide +kernel)) ggX7_most_X7_closes
set_option maxRecDepth 20000 in
theorem ggX7_most_X7_turns : GoodIn wsX7_most wsX7_turns := goodIn_r _ [22, 23, 2, 1, 38, 39, 40, 41, 42, 43, 44, 45, 46, 47, 48, 49] (by decide +kernel) (by decide +kernel)
set_option maxRecDepth 20000 in
theorem gX7_most_X7_turns : GoodIn wsX7_most (wsV RX7 86 RX7 yX7_turns wsX7_turns) := goodIn_app (goodIn_of _ (by decide +kernel)) ggX7_most_X7_turns
set_option maxRecDepth 20000 in
theorem ggX7_most_X7_pointsOf : GoodIn wsX7_most wsX7_pointsOf := goodIn_r _ [27, 10, 28, 29, 30, 7, 31, 23, 9, 16, 17, 18, 38, 39, 40, 41, 42, 43, 44, 45, 46, 47, 48, 49] (by decide +kernel) (by decide +kernel)
set_option maxRecDepth 20000 in
theorem gX7_most_X7_pointsOf : GoodIn wsX7_most (wsV RX7 89 RX7 yX7_pointsOf wsX7_pointsOf) := goodIn_app (goodIn_of _ (by decide +kernel)) ggX7_most_X7_pointsOf
set_option maxRecDepth 20000 in
theorem ggX7_most_X7_may : GoodIn wsX7_most wsX7_may := goodIn_r _ [35, 1, 2, 36, 37, 38, 39, 40, 41, 42, 43, 44, 45, 46, 47, 48, 49] (by decide +kernel) (by decide +kernel)
set_option maxRecDepth 20000 in
theorem gX7_most_X7_may : GoodIn wsX7_most (wsV RX7 92 RX7 yX7_may wsX7_may) := goodIn_app (goodIn_of _ (by decide +kernel)) ggX7_most_X7_may
theorem dX7_most_0 : decode cX7_most 0 = .ok (.aload_n 0, 1) := by decide +kernel
theorem dX7_most_1 : decode cX7_most 1 = .ok (.iconst 0, 1) := by decide +kernel
theorem dX7_most_2 : decode cX7_most 2 = .ok (.invokevirtual 78, 3) := by decide +kernel
theorem dX7_most_5 : decode cX7_most 5 = .ok (.iconst (-1), 1) := by decide +kernel
theorem dX7_most_6 : decode cX7_most 6 = .ok (.istore_n 2, 1) := by decide +kernel
theorem dX7_most_7 : decode cX7_most 7 = .ok (.iconst 0, 1) := by decide +kernel
theorem dX7_most_8 : decode cX7_most 8 = .ok (.istore_n 3, 1) := by decide +kernel
theorem dX7_most_9 : decode cX7_most 9 = .ok (.aload_n 0, 1) := by decide +kernel
theorem dX7_most_10 : decode cX7_most 10 = .ok (.getfield 29, 3) := by decide +kernel
theorem dX7_most_13 : decode cX7_most 13 = .ok (.iconst 0, 1) := by decide +kernel
theorem dX7_most_14 : decode cX7_most 14 = .ok (.iconst (-1), 1) := by decide +kernel
theorem dX7_most_15 : decode cX7_most 15 = .ok (.iastore, 1) := by decide +kernel
theorem dX7_most_16 : decode cX7_most 16 = .ok (.iload_n 3, 1) := by decide +kernel
theorem dX7_most_17 : decode cX7_most 17 = .ok (.ifCond .lt 155, 3) := by decide +kernel
theorem dX7_most_20 : decode cX7_most 20 = .ok (.iload_n 3, 1) := by decide +kernel
theorem dX7_most_21 : decode cX7_most 21 = .ok (.aload_n 0, 1) := by decide +kernel
theorem dX7_most_22 : decode cX7_most 22 = .ok (.getfield 7, 3) := by decide +kernel
theorem dX7_most_25 : decode cX7_most 25 = .ok (.iconst 0, 1) := by decide +kernel
theorem dX7_most_26 : decode cX7_most 26 = .ok (.iaload, 1) := by decide +kernel
theorem dX7_most_27 : decode cX7_most 27 = .ok (.if_icmp .ne 69, 3) := by decide +kernel
theorem dX7_most_30 : decode cX7_most 30 = .ok (.aload_n 0, 1) := by decide +kernel
theorem dX7_most_31 : decode cX7_most 31 = .ok (.iload_n 1, 1) := by decide +kernel
theorem dX7_most_32 : decode cX7_most 32 = .ok (.invokevirtual 86, 3) := by decide +kernel
theorem dX7_most_35 : decode cX7_most 35 = .ok (.aload_n 0, 1) := by decide +kernel
theorem dX7_most_36 : decode cX7_most 36 = .ok (.iload_n 1, 1) := by decide +kernel
theorem dX7_most_37 : decode cX7_most 37 = .ok (.invokevirtual 89, 3) := by decide +kernel
theorem dX7_most_40 : decode cX7_most 40 = .ok (.istore 4, 2) := by decide +kernel
theorem dX7_most_42 : decode cX7_most 42 = .ok (.iconst 0, 1) := by decide +kernel
theorem dX7_most_43 : decode cX7_most 43 = .ok (.istore 5, 2) := by decide +kernel
theorem dX7_most_45 : decode cX7_most 45 = .ok (.iload 5, 2) := by decide +kernel
theorem dX7_most_47 : decode cX7_most 47 = .ok (.iconst 5, 1) := by decide +kernel
theorem dX7_most_48 : decode cX7_most 48 = .ok (.if_icmp .ge 29, 3) := by decide +kernel
theorem dX7_most_51 : decode cX7_most 51 = .ok (.iload 4, 2) := by decide +kernel
theorem dX7_most_53 : decode cX7_most 53 = .ok (.iload_n 2, 1) := by decide +kernel
theorem dX7_most_54 : decode cX7_most 54 = .ok (.if_icmp .le 23, 3) := by decide +kernel
theorem dX7_most_57 : decode cX7_most 57 = .ok (.aload_n 0, 1) := by decide +kernel
theorem dX7_most_58 : decode cX7_most 58 = .ok (.getfield 32, 3) := by decide +kernel
theorem dX7_most_61 : decode cX7_most 61 = .ok (.iload 5, 2) := by decide +kernel
theorem dX7_most_63 : decode cX7_most 63 = .ok (.aload_n 0, 1) := by decide +kernel
theorem dX7_most_64 : decode cX7_most 64 = .ok (.getfield 29, 3) := by decide +kernel
theorem dX7_most_67 : decode cX7_most 67 = .ok (.iload 5, 2) := by decide +kernel
theorem dX7_most_69 : decode cX7_most 69 = .ok (.iaload, 1) := by decide +kernel
theorem dX7_most_70 : decode cX7_most 70 = .ok (.iastore, 1) := by decide +kernel
theorem dX7_most_71 : decode cX7_most 71 = .ok (.iinc 5 1, 3) := by decide +kernel
theorem dX7_most_74 : decode cX7_most 74 = .ok (.goto (-29), 3) := by decide +kernel
theorem dX7_most_77 : decode cX7_most 77 = .ok (.iload 4, 2) := by decide +kernel
theorem dX7_most_79 : decode cX7_most 79 = .ok (.iload_n 2, 1) := by decide +kernel
theorem dX7_most_80 : decode cX7_most 80 = .ok (.if_icmp .le 8, 3) := by decide +kernel
theorem dX7_most_83 : decode cX7_most 83 = .ok (.iload 4, 2) := by decide +kernel
theorem dX7_most_85 : decode cX7_most 85 = .ok (.goto 4, 3) := by decide +kernel
theorem dX7_most_88 : decode cX7_most 88 = .ok (.iload_n 2, 1) := by decide +kernel
theorem dX7_most_89 : decode cX7_most 89 = .ok (.istore_n 2, 1) := by decide +kernel
theorem dX7_most_90 : decode cX7_most 90 = .ok (.iinc 3 (-1), 3) := by decide +kernel
theorem dX7_most_93 : decode cX7_most 93 = .ok (.goto (-77), 3) := by decide +kernel
theorem dX7_most_96 : decode cX7_most 96 = .ok (.aload_n 0, 1) := by decide +kernel
theorem dX7_most_97 : decode cX7_most 97 = .ok (.getfield 29, 3) := by decide +kernel
theorem dX7_most_100 : decode cX7_most 100 = .ok (.iload_n 3, 1) := by decide +kernel
theorem dX7_most_101 : decode cX7_most 101 = .ok (.dup2, 1) := by decide +kernel
theorem dX7_most_102 : decode cX7_most 102 = .ok (.iaload, 1) := by decide +kernel
theorem dX7_most_103 : decode cX7_most 103 = .ok (.iconst 1, 1) := by decide +kernel
theorem dX7_most_104 : decode cX7_most 104 = .ok (.iadd, 1) := by decide +kernel
theorem dX7_most_105 : decode cX7_most 105 = .ok (.iastore, 1) := by decide +kernel
theorem dX7_most_106 : decode cX7_most 106 = .ok (.aload_n 0, 1) := by decide +kernel
theorem dX7_most_107 : decode cX7_most 107 = .ok (.getfield 29, 3) := by decide +kernel
theorem dX7_most_110 : decode cX7_most 110 = .ok (.iload_n 3, 1) := by decide +kernel
theorem dX7_most_111 : decode cX7_most 111 = .ok (.iaload, 1) := by decide +kernel
theorem dX7_most_112 : decode cX7_most 112 = .ok (.aload_n 0, 1) := by decide +kernel
theorem dX7_most_113 : decode cX7_most 113 = .ok (.getfield 7, 3) := by decide +kernel
theorem dX7_most_116 : decode cX7_most 116 = .ok (.iload_n 1, 1) := by decide +kernel
theorem dX7_most_117 : decode cX7_most 117 = .ok (.iaload, 1) := by decide +kernel
theorem dX7_most_118 : decode cX7_most 118 = .ok (.if_icmp .le 9, 3) := by decide +kernel
theorem dX7_most_121 : decode cX7_most 121 = .ok (.iinc 3 (-1), 3) := by decide +kernel
theorem dX7_most_124 : decode cX7_most 124 = .ok (.goto (-108), 3) := by decide +kernel
theorem dX7_most_127 : decode cX7_most 127 = .ok (.aload_n 0, 1) := by decide +kernel
theorem dX7_most_128 : decode cX7_most 128 = .ok (.iload_n 1, 1) := by decide +kernel
theorem dX7_most_129 : decode cX7_most 129 = .ok (.iload_n 3, 1) := by decide +kernel
theorem dX7_most_130 : decode cX7_most 130 = .ok (.invokevirtual 92, 3) := by decide +kernel
theorem dX7_most_133 : decode cX7_most 133 = .ok (.ifCond .eq (-117), 3) := by decide +kernel
theorem dX7_most_136 : decode cX7_most 136 = .ok (.iinc 3 1, 3) := by decide +kernel
theorem dX7_most_139 : decode cX7_most 139 = .ok (.aload_n 0, 1) := by decide +kernel
theorem dX7_most_140 : decode cX7_most 140 = .ok (.getfield 29, 3) := by decide +kernel
theorem dX7_most_143 : decode cX7_most 143 = .ok (.iload_n 3, 1) := by decide +kernel
theorem dX7_most_144 : decode cX7_most 144 = .ok (.iconst 5, 1) := by decide +kernel
theorem dX7_most_145 : decode cX7_most 145 = .ok (.if_icmp .ge 7, 3) := by decide +kernel
theorem dX7_most_148 : decode cX7_most 148 = .ok (.iload_n 3, 1) := by decide +kernel
theorem dX7_most_149 : decode cX7_most 149 = .ok (.goto 4, 3) := by decide +kernel
theorem dX7_most_152 : decode cX7_most 152 = .ok (.iconst 0, 1) := by decide +kernel
theorem dX7_most_153 : decode cX7_most 153 = .ok (.iload_n 3, 1) := by decide +kernel
theorem dX7_most_154 : decode cX7_most 154 = .ok (.iconst 5, 1) := by decide +kernel
theorem dX7_most_155 : decode cX7_most 155 = .ok (.if_icmp .ge 7, 3) := by decide +kernel
theorem dX7_most_158 : decode cX7_most 158 = .ok (.iconst (-1), 1) := by decide +kernel
theorem dX7_most_159 : decode cX7_most 159 = .ok (.goto 9, 3) := by decide +kernel
theorem dX7_most_162 : decode cX7_most 162 = .ok (.aload_n 0, 1) := by decide +kernel
theorem dX7_most_163 : decode cX7_most 163 = .ok (.getfield 29, 3) := by decide +kernel
theorem dX7_most_166 : decode cX7_most 166 = .ok (.iconst 0, 1) := by decide +kernel
theorem dX7_most_167 : decode cX7_most 167 = .ok (.iaload, 1) := by decide +kernel
theorem dX7_most_168 : decode cX7_most 168 = .ok (.iastore, 1) := by decide +kernel
theorem dX7_most_169 : decode cX7_most 169 = .ok (.goto (-153), 3) := by decide +kernel
theorem dX7_most_172 : decode cX7_most 172 = .ok (.iconst 0, 1) := by decide +kernel
theorem dX7_most_173 : decode cX7_most 173 = .ok (.istore 4, 2) := by decide +kernel
theorem dX7_most_175 : decode cX7_most 175 = .ok (.iload 4, 2) := by decide +kernel
theorem dX7_most_177 : decode cX7_most 177 = .ok (.iconst 5, 1) := by decide +kernel
theorem dX7_most_178 : decode cX7_most 178 = .ok (.if_icmp .ge 23, 3) := by decide +kernel
theorem dX7_most_181 : decode cX7_most 181 = .ok (.aload_n 0, 1) := by decide +kernel
theorem dX7_most_182 : decode cX7_most 182 = .ok (.getfield 29, 3) := by decide +kernel
theorem dX7_most_185 : decode cX7_most 185 = .ok (.iload 4, 2) := by decide +kernel
theorem dX7_most_187 : decode cX7_most 187 = .ok (.aload_n 0, 1) := by decide +kernel
theorem dX7_most_188 : decode cX7_most 188 = .ok (.getfield 32, 3) := by decide +kernel
theorem dX7_most_191 : decode cX7_most 191 = .ok (.iload 4, 2) := by decide +kernel
theorem dX7_most_193 : decode cX7_most 193 = .ok (.iaload, 1) := by decide +kernel
theorem dX7_most_194 : decode cX7_most 194 = .ok (.iastore, 1) := by decide +kernel
theorem dX7_most_195 : decode cX7_most 195 = .ok (.iinc 4 1, 3) := by decide +kernel
theorem dX7_most_198 : decode cX7_most 198 = .ok (.goto (-23), 3) := by decide +kernel
theorem dX7_most_201 : decode cX7_most 201 = .ok (.aload_n 0, 1) := by decide +kernel
theorem dX7_most_202 : decode cX7_most 202 = .ok (.iload_n 1, 1) := by decide +kernel
theorem dX7_most_203 : decode cX7_most 203 = .ok (.invokevirtual 86, 3) := by decide +kernel
theorem dX7_most_206 : decode cX7_most 206 = .ok (.iload_n 2, 1) := by decide +kernel
theorem dX7_most_207 : decode cX7_most 207 = .ok (.ireturn, 1) := by decide +kernel
set_option maxRecDepth 20000 in
theorem ggX7_points_X7_isModel : GoodIn wsX7_points wsX7_isModel := goodIn_r _ [4] (by decide +kernel) (by decide +kernel)
set_option maxRecDepth 20000 in
theorem gX7_points_X7_isModel : GoodIn wsX7_points (va_wsS RX7 95 yX7_isModel wsX7_isModel) := goodIn_app (goodIn_of _ (by decide +kernel)) ggX7_points_X7_isModel
set_option maxRecDepth 20000 in
theorem ggX7_points_X7_asks : GoodIn wsX7_points wsX7_asks := goodIn_r _ [8, 9, 50, 51, 52, 53, 54, 55, 56, 57, 58, 59, 60, 61] (by decide +kernel) (by decide +kernel)
set_option maxRecDepth 20000 in
theorem gX7_points_X7_asks : GoodIn wsX7_points (wsV RX7 49 RX7 yX7_asks wsX7_asks) := goodIn_app (goodIn_of _ (by decide +kernel)) ggX7_points_X7_asks
set_option maxRecDepth 20000 in
theorem ggX7_points_X7_most : GoodIn wsX7_points wsX7_most := goodIn_r _ [13, 14, 15, 16, 17, 18, 19, 3, 20, 21, 22, 23, 24, 25, 26, 27, 28, 29, 30, 31, 32, 33, 34, 35, 36, 37, 38, 39, 40, 41, 42, 43, 44, 45, 46, 47, 48, 49, 50, 51, 52, 53, 54, 55, 56, 57, 58, 59, 60, 61] (by decide +kernel) (by decide +kernel)
set_option maxRecDepth 20000 in
theorem gX7_points_X7_most : GoodIn wsX7_points (wsV RX7 98 RX7 yX7_most wsX7_most) := goodIn_app (goodIn_of _ (by decide +kernel)) ggX7_points_X7_most
theorem dX7_points_0 : decode cX7_points 0 = .ok (.aload_n 0, 1) := by decide +kernel
theorem dX7_points_1 : decode cX7_points 1 = .ok (.iload_n 1, 1) := by decide +kernel
theorem dX7_points_2 : decode cX7_points 2 = .ok (.invokestatic 95, 3) := by decide +kernel
theorem dX7_points_5 : decode cX7_points 5 = .ok (.invokevirtual 49, 3) := by decide +kernel
theorem dX7_points_8 : decode cX7_points 8 = .ok (.ifCond .eq 11, 3) := by decide +kernel
theorem dX7_points_11 : decode cX7_points 11 = .ok (.aload_n 0, 1) := by decide +kernel
theorem dX7_points_12 : decode cX7_points 12 = .ok (.iload_n 1, 1) := by decide +kernel
theorem dX7_points_13 : decode cX7_points 13 = .ok (.invokevirtual 98, 3) := by decide +kernel
theorem dX7_points_16 : decode cX7_points 16 = .ok (.goto 4, 3) := by decide +kernel
theorem dX7_points_19 : decode cX7_points 19 = .ok (.iconst 0, 1) := by decide +kernel
theorem dX7_points_20 : decode cX7_points 20 = .ok (.ireturn, 1) := by decide +kernel
set_option maxRecDepth 20000 in
theorem ggX7_pointsByTrying_X7_isModel : GoodIn wsX7_pointsByTrying wsX7_isModel := goodIn_r _ [4] (by decide +kernel) (by decide +kernel)
set_option maxRecDepth 20000 in
theorem gX7_pointsByTrying_X7_isModel : GoodIn wsX7_pointsByTrying (va_wsS RX7 95 yX7_isModel wsX7_isModel) := goodIn_app (goodIn_of _ (by decide +kernel)) ggX7_pointsByTrying_X7_isModel
set_option maxRecDepth 20000 in
theorem ggX7_pointsByTrying_X7_asks : GoodIn wsX7_pointsByTrying wsX7_asks := goodIn_r _ [8, 9, 50, 51, 52, 53, 54, 55, 56, 57, 58, 59, 60, 61] (by decide +kernel) (by decide +kernel)
set_option maxRecDepth 20000 in
theorem gX7_pointsByTrying_X7_asks : GoodIn wsX7_pointsByTrying (wsV RX7 49 RX7 yX7_asks wsX7_asks) := goodIn_app (goodIn_of _ (by decide +kernel)) ggX7_pointsByTrying_X7_asks
set_option maxRecDepth 20000 in
theorem ggX7_pointsByTrying_X7_most : GoodIn wsX7_pointsByTrying wsX7_most := goodIn_r _ [13, 14, 15, 16, 17, 18, 19, 3, 20, 21, 22, 23, 24, 25, 26, 27, 28, 29, 30, 31, 32, 33, 34, 35, 36, 37, 38, 39, 40, 41, 42, 43, 44, 45, 46, 47, 48, 49, 50, 51, 52, 53, 54, 55, 56, 57, 58, 59, 60, 61] (by decide +kernel) (by decide +kernel)
set_option maxRecDepth 20000 in
theorem gX7_pointsByTrying_X7_most : GoodIn wsX7_pointsByTrying (wsV RX7 98 RX7 yX7_most wsX7_most) := goodIn_app (goodIn_of _ (by decide +kernel)) ggX7_pointsByTrying_X7_most
theorem dX7_pointsByTrying_0 : decode cX7_pointsByTrying 0 = .ok (.aload_n 0, 1) := by decide +kernel
theorem dX7_pointsByTrying_1 : decode cX7_pointsByTrying 1 = .ok (.iload_n 1, 1) := by decide +kernel
theorem dX7_pointsByTrying_2 : decode cX7_pointsByTrying 2 = .ok (.invokestatic 95, 3) := by decide +kernel
theorem dX7_pointsByTrying_5 : decode cX7_pointsByTrying 5 = .ok (.invokevirtual 49, 3) := by decide +kernel
theorem dX7_pointsByTrying_8 : decode cX7_pointsByTrying 8 = .ok (.ifCond .eq 11, 3) := by decide +kernel
theorem dX7_pointsByTrying_11 : decode cX7_pointsByTrying 11 = .ok (.aload_n 0, 1) := by decide +kernel
theorem dX7_pointsByTrying_12 : decode cX7_pointsByTrying 12 = .ok (.iload_n 1, 1) := by decide +kernel
theorem dX7_pointsByTrying_13 : decode cX7_pointsByTrying 13 = .ok (.invokevirtual 98, 3) := by decide +kernel
theorem dX7_pointsByTrying_16 : decode cX7_pointsByTrying 16 = .ok (.goto 4, 3) := by decide +kernel
theorem dX7_pointsByTrying_19 : decode cX7_pointsByTrying 19 = .ok (.iconst 0, 1) := by decide +kernel
theorem dX7_pointsByTrying_20 : decode cX7_pointsByTrying 20 = .ok (.ireturn, 1) := by decide +kernel
set_option maxRecDepth 20000 in
theorem ggX7_markOf_X7_linksOf : GoodIn wsX7_markOf wsX7_linksOf := goodIn_r _ [5, 6, 46, 47, 48, 49, 50, 51, 52, 53, 54, 55, 56, 57] (by decide +kernel) (by decide +kernel)
set_option maxRecDepth 20000 in
theorem gX7_markOf_X7_linksOf : GoodIn wsX7_markOf (wsV RX7 72 RX7 yX7_linksOf wsX7_linksOf) := goodIn_app (goodIn_of _ (by decide +kernel)) ggX7_markOf_X7_linksOf
set_option maxRecDepth 20000 in
theorem ggX7_markOf_X7_most : GoodIn wsX7_markOf wsX7_most := goodIn_r _ [10, 11, 12, 13, 14, 15, 16, 4, 17, 18, 6, 19, 20, 21, 22, 23, 24, 25, 26, 27, 28, 29, 30, 31, 32, 33, 34, 35, 36, 37, 38, 39, 40, 41, 42, 43, 44, 45, 46, 47, 48, 49, 50, 51, 52, 53, 54, 55, 56, 57] (by decide +kernel) (by decide +kernel)
set_option maxRecDepth 20000 in
theorem gX7_markOf_X7_most : GoodIn wsX7_markOf (wsV RX7 98 RX7 yX7_most wsX7_most) := goodIn_app (goodIn_of _ (by decide +kernel)) ggX7_markOf_X7_most
theorem dX7_markOf_0 : decode cX7_markOf 0 = .ok (.aload_n 0, 1) := by decide +kernel
theorem dX7_markOf_1 : decode cX7_markOf 1 = .ok (.iload_n 1, 1) := by decide +kernel
theorem dX7_markOf_2 : decode cX7_markOf 2 = .ok (.invokevirtual 72, 3) := by decide +kernel
theorem dX7_markOf_5 : decode cX7_markOf 5 = .ok (.istore_n 2, 1) := by decide +kernel
theorem dX7_markOf_6 : decode cX7_markOf 6 = .ok (.iload_n 2, 1) := by decide +kernel
theorem dX7_markOf_7 : decode cX7_markOf 7 = .ok (.ifCond .ne 7, 3) := by decide +kernel
theorem dX7_markOf_10 : decode cX7_markOf 10 = .ok (.iconst 0, 1) := by decide +kernel
theorem dX7_markOf_11 : decode cX7_markOf 11 = .ok (.goto 15, 3) := by decide +kernel
theorem dX7_markOf_14 : decode cX7_markOf 14 = .ok (.bipush 100, 2) := by decide +kernel
theorem dX7_markOf_16 : decode cX7_markOf 16 = .ok (.aload_n 0, 1) := by decide +kernel
theorem dX7_markOf_17 : decode cX7_markOf 17 = .ok (.iload_n 1, 1) := by decide +kernel
theorem dX7_markOf_18 : decode cX7_markOf 18 = .ok (.invokevirtual 98, 3) := by decide +kernel
theorem dX7_markOf_21 : decode cX7_markOf 21 = .ok (.imul, 1) := by decide +kernel
theorem dX7_markOf_22 : decode cX7_markOf 22 = .ok (.iconst 4, 1) := by decide +kernel
theorem dX7_markOf_23 : decode cX7_markOf 23 = .ok (.iload_n 2, 1) := by decide +kernel
theorem dX7_markOf_24 : decode cX7_markOf 24 = .ok (.imul, 1) := by decide +kernel
theorem dX7_markOf_25 : decode cX7_markOf 25 = .ok (.idiv, 1) := by decide +kernel
theorem dX7_markOf_26 : decode cX7_markOf 26 = .ok (.ireturn, 1) := by decide +kernel
set_option maxRecDepth 20000 in
theorem ggX7_mark_X7_isModel : GoodIn wsX7_mark wsX7_isModel := goodIn_r _ [4] (by decide +kernel) (by decide +kernel)
set_option maxRecDepth 20000 in
theorem gX7_mark_X7_isModel : GoodIn wsX7_mark (va_wsS RX7 95 yX7_isModel wsX7_isModel) := goodIn_app (goodIn_of _ (by decide +kernel)) ggX7_mark_X7_isModel
set_option maxRecDepth 20000 in
theorem ggX7_mark_X7_asks : GoodIn wsX7_mark wsX7_asks := goodIn_r _ [8, 9, 58, 59, 60, 61, 62, 63, 64, 65, 66, 67, 68, 69] (by decide +kernel) (by decide +kernel)
set_option maxRecDepth 20000 in
theorem gX7_mark_X7_asks : GoodIn wsX7_mark (wsV RX7 49 RX7 yX7_asks wsX7_asks) := goodIn_app (goodIn_of _ (by decide +kernel)) ggX7_mark_X7_asks
set_option maxRecDepth 20000 in
theorem ggX7_mark_X7_markOf : GoodIn wsX7_mark wsX7_markOf := goodIn_r _ [13, 14, 15, 16, 3, 17, 18, 19, 20, 21, 22, 23, 24, 25, 26, 27, 28, 29, 30, 31, 32, 33, 34, 35, 36, 37, 38, 39, 40, 41, 42, 43, 44, 45, 46, 47, 48, 49, 50, 51, 52, 53, 54, 55, 56, 57, 58, 59, 60, 61, 62, 63, 64, 65, 66, 67, 68, 69] (by decide +kernel) (by decide +kernel)
set_option maxRecDepth 20000 in
theorem gX7_mark_X7_markOf : GoodIn wsX7_mark (wsV RX7 101 RX7 yX7_markOf wsX7_markOf) := goodIn_app (goodIn_of _ (by decide +kernel)) ggX7_mark_X7_markOf
theorem dX7_mark_0 : decode cX7_mark 0 = .ok (.aload_n 0, 1) := by decide +kernel
theorem dX7_mark_1 : decode cX7_mark 1 = .ok (.iload_n 1, 1) := by decide +kernel
theorem dX7_mark_2 : decode cX7_mark 2 = .ok (.invokestatic 95, 3) := by decide +kernel
theorem dX7_mark_5 : decode cX7_mark 5 = .ok (.invokevirtual 49, 3) := by decide +kernel
theorem dX7_mark_8 : decode cX7_mark 8 = .ok (.ifCond .eq 11, 3) := by decide +kernel
theorem dX7_mark_11 : decode cX7_mark 11 = .ok (.aload_n 0, 1) := by decide +kernel
theorem dX7_mark_12 : decode cX7_mark 12 = .ok (.iload_n 1, 1) := by decide +kernel
theorem dX7_mark_13 : decode cX7_mark 13 = .ok (.invokevirtual 101, 3) := by decide +kernel
theorem dX7_mark_16 : decode cX7_mark 16 = .ok (.goto 4, 3) := by decide +kernel
theorem dX7_mark_19 : decode cX7_mark 19 = .ok (.iconst 0, 1) := by decide +kernel
theorem dX7_mark_20 : decode cX7_mark 20 = .ok (.ireturn, 1) := by decide +kernel
set_option maxRecDepth 20000 in
theorem ggX7_bestModel_X7_linksOf : GoodIn wsX7_bestModel wsX7_linksOf := goodIn_r _ [6, 7, 51, 52, 53, 54, 55, 56, 57, 58, 59, 60, 61, 62] (by decide +kernel) (by decide +kernel)
set_option maxRecDepth 20000 in
theorem gX7_bestModel_X7_linksOf : GoodIn wsX7_bestModel (wsV RX7 72 RX7 yX7_linksOf wsX7_linksOf) := goodIn_app (goodIn_of _ (by decide +kernel)) ggX7_bestModel_X7_linksOf
set_option maxRecDepth 20000 in
theorem ggX7_bestModel_X7_markOf : GoodIn wsX7_bestModel wsX7_markOf := goodIn_r _ [11, 2, 3, 4, 5, 6, 7, 12, 13, 14, 15, 16, 17, 18, 19, 20, 21, 22, 23, 24, 25, 26, 27, 28, 29, 30, 31, 32, 33, 34, 35, 36, 37, 38, 39, 40, 41, 42, 43, 44, 45, 46, 47, 48, 49, 50, 51, 52, 53, 54, 55, 56, 57, 58, 59, 60, 61, 62] (by decide +kernel) (by decide +kernel)
set_option maxRecDepth 20000 in
theorem gX7_bestModel_X7_markOf : GoodIn wsX7_bestModel (wsV RX7 101 RX7 yX7_markOf wsX7_markOf) := goodIn_app (goodIn_of _ (by decide +kernel)) ggX7_bestModel_X7_markOf
theorem dX7_bestModel_0 : decode cX7_bestModel 0 = .ok (.aload_n 0, 1) := by decide +kernel
theorem dX7_bestModel_1 : decode cX7_bestModel 1 = .ok (.iconst 0, 1) := by decide +kernel
theorem dX7_bestModel_2 : decode cX7_bestModel 2 = .ok (.putfield 38, 3) := by decide +kernel
theorem dX7_bestModel_5 : decode cX7_bestModel 5 = .ok (.iconst (-1), 1) := by decide +kernel
theorem dX7_bestModel_6 : decode cX7_bestModel 6 = .ok (.istore_n 1, 1) := by decide +kernel
theorem dX7_bestModel_7 : decode cX7_bestModel 7 = .ok (.iconst 1, 1) := by decide +kernel
theorem dX7_bestModel_8 : decode cX7_bestModel 8 = .ok (.istore_n 2, 1) := by decide +kernel
theorem dX7_bestModel_9 : decode cX7_bestModel 9 = .ok (.iload_n 2, 1) := by decide +kernel
theorem dX7_bestModel_10 : decode cX7_bestModel 10 = .ok (.iconst 4, 1) := by decide +kernel
theorem dX7_bestModel_11 : decode cX7_bestModel 11 = .ok (.if_icmp .ge 51, 3) := by decide +kernel
theorem dX7_bestModel_14 : decode cX7_bestModel 14 = .ok (.aload_n 0, 1) := by decide +kernel
theorem dX7_bestModel_15 : decode cX7_bestModel 15 = .ok (.iload_n 2, 1) := by decide +kernel
theorem dX7_bestModel_16 : decode cX7_bestModel 16 = .ok (.invokevirtual 72, 3) := by decide +kernel
theorem dX7_bestModel_19 : decode cX7_bestModel 19 = .ok (.ifCond .le 25, 3) := by decide +kernel
theorem dX7_bestModel_22 : decode cX7_bestModel 22 = .ok (.iload_n 1, 1) := by decide +kernel
theorem dX7_bestModel_23 : decode cX7_bestModel 23 = .ok (.iconst (-1), 1) := by decide +kernel
theorem dX7_bestModel_24 : decode cX7_bestModel 24 = .ok (.if_icmp .eq 16, 3) := by decide +kernel
theorem dX7_bestModel_27 : decode cX7_bestModel 27 = .ok (.aload_n 0, 1) := by decide +kernel
theorem dX7_bestModel_28 : decode cX7_bestModel 28 = .ok (.iload_n 2, 1) := by decide +kernel
theorem dX7_bestModel_29 : decode cX7_bestModel 29 = .ok (.invokevirtual 101, 3) := by decide +kernel
theorem dX7_bestModel_32 : decode cX7_bestModel 32 = .ok (.aload_n 0, 1) := by decide +kernel
theorem dX7_bestModel_33 : decode cX7_bestModel 33 = .ok (.iload_n 1, 1) := by decide +kernel
theorem dX7_bestModel_34 : decode cX7_bestModel 34 = .ok (.invokevirtual 101, 3) := by decide +kernel
theorem dX7_bestModel_37 : decode cX7_bestModel 37 = .ok (.if_icmp .le 7, 3) := by decide +kernel
theorem dX7_bestModel_40 : decode cX7_bestModel 40 = .ok (.iconst 1, 1) := by decide +kernel
theorem dX7_bestModel_41 : decode cX7_bestModel 41 = .ok (.goto 4, 3) := by decide +kernel
theorem dX7_bestModel_44 : decode cX7_bestModel 44 = .ok (.iconst 0, 1) := by decide +kernel
theorem dX7_bestModel_45 : decode cX7_bestModel 45 = .ok (.istore_n 3, 1) := by decide +kernel
theorem dX7_bestModel_46 : decode cX7_bestModel 46 = .ok (.iload_n 3, 1) := by decide +kernel
theorem dX7_bestModel_47 : decode cX7_bestModel 47 = .ok (.ifCond .eq 7, 3) := by decide +kernel
theorem dX7_bestModel_50 : decode cX7_bestModel 50 = .ok (.iload_n 2, 1) := by decide +kernel
theorem dX7_bestModel_51 : decode cX7_bestModel 51 = .ok (.goto 4, 3) := by decide +kernel
theorem dX7_bestModel_54 : decode cX7_bestModel 54 = .ok (.iload_n 1, 1) := by decide +kernel
theorem dX7_bestModel_55 : decode cX7_bestModel 55 = .ok (.istore_n 1, 1) := by decide +kernel
theorem dX7_bestModel_56 : decode cX7_bestModel 56 = .ok (.iinc 2 1, 3) := by decide +kernel
theorem dX7_bestModel_59 : decode cX7_bestModel 59 = .ok (.goto (-50), 3) := by decide +kernel
theorem dX7_bestModel_62 : decode cX7_bestModel 62 = .ok (.iload_n 1, 1) := by decide +kernel
