theorem dX6_findBestLink_71 : decode cX6_findBestLink 71 = .ok (.getfield 87, 3) := by decide +kernel
theorem dX6_findBestLink_74 : decode cX6_findBestLink 74 = .ok (.iload_n 3, 1) := by decide +kernel
theorem dX6_findBestLink_75 : decode cX6_findBestLink 75 = .ok (.iload 4, 2) := by decide +kernel
theorem dX6_findBestLink_77 : decode cX6_findBestLink 77 = .ok (.iload 5, 2) := by decide +kernel
theorem dX6_findBestLink_79 : decode cX6_findBestLink 79 = .ok (.invokevirtual 124, 3) := by decide +kernel
theorem dX6_findBestLink_82 : decode cX6_findBestLink 82 = .ok (.ifCond .ne 80, 3) := by decide +kernel
theorem dX6_findBestLink_85 : decode cX6_findBestLink 85 = .ok (.aload_n 0, 1) := by decide +kernel
theorem dX6_findBestLink_86 : decode cX6_findBestLink 86 = .ok (.iload_n 3, 1) := by decide +kernel
theorem dX6_findBestLink_87 : decode cX6_findBestLink 87 = .ok (.iload 4, 2) := by decide +kernel
theorem dX6_findBestLink_89 : decode cX6_findBestLink 89 = .ok (.iload 5, 2) := by decide +kernel
theorem dX6_findBestLink_91 : decode cX6_findBestLink 91 = .ok (.invokevirtual 202, 3) := by decide +kernel
theorem dX6_findBestLink_94 : decode cX6_findBestLink 94 = .ok (.aload_n 0, 1) := by decide +kernel
theorem dX6_findBestLink_95 : decode cX6_findBestLink 95 = .ok (.getfield 50, 3) := by decide +kernel
theorem dX6_findBestLink_98 : decode cX6_findBestLink 98 = .ok (.aload_n 0, 1) := by decide +kernel
theorem dX6_findBestLink_99 : decode cX6_findBestLink 99 = .ok (.getfield 41, 3) := by decide +kernel
theorem dX6_findBestLink_102 : decode cX6_findBestLink 102 = .ok (.aload_n 0, 1) := by decide +kernel
theorem dX6_findBestLink_103 : decode cX6_findBestLink 103 = .ok (.getfield 44, 3) := by decide +kernel
theorem dX6_findBestLink_106 : decode cX6_findBestLink 106 = .ok (.aload_n 1, 1) := by decide +kernel
theorem dX6_findBestLink_107 : decode cX6_findBestLink 107 = .ok (.getfield 87, 3) := by decide +kernel
theorem dX6_findBestLink_110 : decode cX6_findBestLink 110 = .ok (.invokevirtual 198, 3) := by decide +kernel
theorem dX6_findBestLink_113 : decode cX6_findBestLink 113 = .ok (.aload_n 0, 1) := by decide +kernel
theorem dX6_findBestLink_114 : decode cX6_findBestLink 114 = .ok (.getfield 50, 3) := by decide +kernel
theorem dX6_findBestLink_117 : decode cX6_findBestLink 117 = .ok (.iload_n 2, 1) := by decide +kernel
theorem dX6_findBestLink_118 : decode cX6_findBestLink 118 = .ok (.aload_n 0, 1) := by decide +kernel
theorem dX6_findBestLink_119 : decode cX6_findBestLink 119 = .ok (.getfield 58, 3) := by decide +kernel
theorem dX6_findBestLink_122 : decode cX6_findBestLink 122 = .ok (.iadd, 1) := by decide +kernel
theorem dX6_findBestLink_123 : decode cX6_findBestLink 123 = .ok (.invokevirtual 134, 3) := by decide +kernel
theorem dX6_findBestLink_126 : decode cX6_findBestLink 126 = .ok (.iload_n 2, 1) := by decide +kernel
theorem dX6_findBestLink_127 : decode cX6_findBestLink 127 = .ok (.isub, 1) := by decide +kernel
theorem dX6_findBestLink_128 : decode cX6_findBestLink 128 = .ok (.istore 6, 2) := by decide +kernel
theorem dX6_findBestLink_130 : decode cX6_findBestLink 130 = .ok (.iload 6, 2) := by decide +kernel
theorem dX6_findBestLink_132 : decode cX6_findBestLink 132 = .ok (.aload_n 0, 1) := by decide +kernel
theorem dX6_findBestLink_133 : decode cX6_findBestLink 133 = .ok (.getfield 58, 3) := by decide +kernel
theorem dX6_findBestLink_136 : decode cX6_findBestLink 136 = .ok (.if_icmp .le 26, 3) := by decide +kernel
theorem dX6_findBestLink_139 : decode cX6_findBestLink 139 = .ok (.aload_n 0, 1) := by decide +kernel
theorem dX6_findBestLink_140 : decode cX6_findBestLink 140 = .ok (.iload 6, 2) := by decide +kernel
theorem dX6_findBestLink_142 : decode cX6_findBestLink 142 = .ok (.putfield 58, 3) := by decide +kernel
theorem dX6_findBestLink_145 : decode cX6_findBestLink 145 = .ok (.aload_n 0, 1) := by decide +kernel
theorem dX6_findBestLink_146 : decode cX6_findBestLink 146 = .ok (.bipush 100, 2) := by decide +kernel
theorem dX6_findBestLink_148 : decode cX6_findBestLink 148 = .ok (.iload_n 3, 1) := by decide +kernel
theorem dX6_findBestLink_149 : decode cX6_findBestLink 149 = .ok (.imul, 1) := by decide +kernel
theorem dX6_findBestLink_150 : decode cX6_findBestLink 150 = .ok (.bipush 10, 2) := by decide +kernel
theorem dX6_findBestLink_152 : decode cX6_findBestLink 152 = .ok (.iload 4, 2) := by decide +kernel
theorem dX6_findBestLink_154 : decode cX6_findBestLink 154 = .ok (.imul, 1) := by decide +kernel
theorem dX6_findBestLink_155 : decode cX6_findBestLink 155 = .ok (.iadd, 1) := by decide +kernel
theorem dX6_findBestLink_156 : decode cX6_findBestLink 156 = .ok (.iload 5, 2) := by decide +kernel
theorem dX6_findBestLink_158 : decode cX6_findBestLink 158 = .ok (.iadd, 1) := by decide +kernel
theorem dX6_findBestLink_159 : decode cX6_findBestLink 159 = .ok (.putfield 54, 3) := by decide +kernel
theorem dX6_findBestLink_162 : decode cX6_findBestLink 162 = .ok (.iinc 5 1, 3) := by decide +kernel
theorem dX6_findBestLink_165 : decode cX6_findBestLink 165 = .ok (.goto (-110), 3) := by decide +kernel
theorem dX6_findBestLink_168 : decode cX6_findBestLink 168 = .ok (.iinc 4 1, 3) := by decide +kernel
theorem dX6_findBestLink_171 : decode cX6_findBestLink 171 = .ok (.goto (-131), 3) := by decide +kernel
theorem dX6_findBestLink_174 : decode cX6_findBestLink 174 = .ok (.iinc 3 1, 3) := by decide +kernel
theorem dX6_findBestLink_177 : decode cX6_findBestLink 177 = .ok (.goto (-151), 3) := by decide +kernel
theorem dX6_findBestLink_180 : decode cX6_findBestLink 180 = .ok (.return_, 1) := by decide +kernel
set_option maxRecDepth 20000 in
theorem ggX6_takeTrialLink_X2_become : GoodIn wsX6_takeTrialLink wsX2_become := goodIn_r _ [10, 11, 12, 13, 14, 15, 16, 17, 18, 19, 20, 21, 64, 65] (by decide +kernel) (by decide +kernel)
set_option maxRecDepth 20000 in
theorem gX6_takeTrialLink_X2_become : GoodIn wsX6_takeTrialLink (wsV RX6 116 RX2 yX2_become wsX2_become) := goodIn_app (goodIn_of _ (by decide +kernel)) ggX6_takeTrialLink_X2_become
set_option maxRecDepth 20000 in
theorem ggX6_takeTrialLink_X2_add : GoodIn wsX6_takeTrialLink wsX2_add := goodIn_r _ [25, 11, 26, 27, 28, 9, 29, 30, 19, 20, 15, 21, 17, 31, 32, 33, 34, 64, 65] (by decide +kernel) (by decide +kernel)
set_option maxRecDepth 20000 in
theorem gX6_takeTrialLink_X2_add : GoodIn wsX6_takeTrialLink (wsV RX6 206 RX2 yX2_add wsX2_add) := goodIn_app (goodIn_of _ (by decide +kernel)) ggX6_takeTrialLink_X2_add
set_option maxRecDepth 20000 in
theorem ggX6_takeTrialLink_X2_addAllImplied : GoodIn wsX6_takeTrialLink wsX2_addAllImplied := goodIn_r _ [38, 39, 40, 41, 9, 42, 26, 27, 28, 29, 11, 30, 19, 20, 15, 21, 17, 43, 44, 45, 46, 47, 48, 49, 50, 23, 24, 25, 31, 32, 33, 34, 64, 65, 66] (by decide +kernel) (by decide +kernel)
set_option maxRecDepth 20000 in
theorem gX6_takeTrialLink_X2_addAllImplied : GoodIn wsX6_takeTrialLink (wsV RX6 120 RX2 yX2_addAllImplied wsX2_addAllImplied) := goodIn_app (goodIn_of _ (by decide +kernel)) ggX6_takeTrialLink_X2_addAllImplied
theorem dX6_takeTrialLink_0 : decode cX6_takeTrialLink 0 = .ok (.aload_n 0, 1) := by decide +kernel
theorem dX6_takeTrialLink_1 : decode cX6_takeTrialLink 1 = .ok (.getfield 41, 3) := by decide +kernel
theorem dX6_takeTrialLink_4 : decode cX6_takeTrialLink 4 = .ok (.aload_n 0, 1) := by decide +kernel
theorem dX6_takeTrialLink_5 : decode cX6_takeTrialLink 5 = .ok (.getfield 12, 3) := by decide +kernel
theorem dX6_takeTrialLink_8 : decode cX6_takeTrialLink 8 = .ok (.getfield 87, 3) := by decide +kernel
theorem dX6_takeTrialLink_11 : decode cX6_takeTrialLink 11 = .ok (.invokevirtual 116, 3) := by decide +kernel
theorem dX6_takeTrialLink_14 : decode cX6_takeTrialLink 14 = .ok (.aload_n 0, 1) := by decide +kernel
theorem dX6_takeTrialLink_15 : decode cX6_takeTrialLink 15 = .ok (.getfield 41, 3) := by decide +kernel
theorem dX6_takeTrialLink_18 : decode cX6_takeTrialLink 18 = .ok (.iload_n 1, 1) := by decide +kernel
theorem dX6_takeTrialLink_19 : decode cX6_takeTrialLink 19 = .ok (.iload_n 2, 1) := by decide +kernel
theorem dX6_takeTrialLink_20 : decode cX6_takeTrialLink 20 = .ok (.iconst 1, 1) := by decide +kernel
theorem dX6_takeTrialLink_21 : decode cX6_takeTrialLink 21 = .ok (.iload_n 3, 1) := by decide +kernel
theorem dX6_takeTrialLink_22 : decode cX6_takeTrialLink 22 = .ok (.ishl, 1) := by decide +kernel
theorem dX6_takeTrialLink_23 : decode cX6_takeTrialLink 23 = .ok (.invokevirtual 206, 3) := by decide +kernel
theorem dX6_takeTrialLink_26 : decode cX6_takeTrialLink 26 = .ok (.pop, 1) := by decide +kernel
theorem dX6_takeTrialLink_27 : decode cX6_takeTrialLink 27 = .ok (.aload_n 0, 1) := by decide +kernel
theorem dX6_takeTrialLink_28 : decode cX6_takeTrialLink 28 = .ok (.getfield 44, 3) := by decide +kernel
theorem dX6_takeTrialLink_31 : decode cX6_takeTrialLink 31 = .ok (.aload_n 0, 1) := by decide +kernel
theorem dX6_takeTrialLink_32 : decode cX6_takeTrialLink 32 = .ok (.getfield 37, 3) := by decide +kernel
theorem dX6_takeTrialLink_35 : decode cX6_takeTrialLink 35 = .ok (.invokevirtual 116, 3) := by decide +kernel
theorem dX6_takeTrialLink_38 : decode cX6_takeTrialLink 38 = .ok (.aload_n 0, 1) := by decide +kernel
theorem dX6_takeTrialLink_39 : decode cX6_takeTrialLink 39 = .ok (.getfield 44, 3) := by decide +kernel
theorem dX6_takeTrialLink_42 : decode cX6_takeTrialLink 42 = .ok (.iload_n 1, 1) := by decide +kernel
theorem dX6_takeTrialLink_43 : decode cX6_takeTrialLink 43 = .ok (.iload_n 2, 1) := by decide +kernel
theorem dX6_takeTrialLink_44 : decode cX6_takeTrialLink 44 = .ok (.iconst 1, 1) := by decide +kernel
theorem dX6_takeTrialLink_45 : decode cX6_takeTrialLink 45 = .ok (.iload_n 3, 1) := by decide +kernel
theorem dX6_takeTrialLink_46 : decode cX6_takeTrialLink 46 = .ok (.ishl, 1) := by decide +kernel
theorem dX6_takeTrialLink_47 : decode cX6_takeTrialLink 47 = .ok (.invokevirtual 206, 3) := by decide +kernel
theorem dX6_takeTrialLink_50 : decode cX6_takeTrialLink 50 = .ok (.pop, 1) := by decide +kernel
theorem dX6_takeTrialLink_51 : decode cX6_takeTrialLink 51 = .ok (.aload_n 0, 1) := by decide +kernel
theorem dX6_takeTrialLink_52 : decode cX6_takeTrialLink 52 = .ok (.getfield 44, 3) := by decide +kernel
theorem dX6_takeTrialLink_55 : decode cX6_takeTrialLink 55 = .ok (.aload_n 0, 1) := by decide +kernel
theorem dX6_takeTrialLink_56 : decode cX6_takeTrialLink 56 = .ok (.getfield 30, 3) := by decide +kernel
theorem dX6_takeTrialLink_59 : decode cX6_takeTrialLink 59 = .ok (.invokevirtual 120, 3) := by decide +kernel
theorem dX6_takeTrialLink_62 : decode cX6_takeTrialLink 62 = .ok (.return_, 1) := by decide +kernel
set_option maxRecDepth 20000 in
theorem ggX6_pointsFor_J6_bitCount_0f7a4 : GoodIn wsX6_pointsFor wsJ6_bitCount_0f7a4 := goodIn_r _ [4, 5, 6, 7] (by decide +kernel) (by decide +kernel)
set_option maxRecDepth 20000 in
theorem gX6_pointsFor_J6_bitCount_0f7a4 : GoodIn wsX6_pointsFor (va_wsS RX6 208 yJ6_bitCount_0f7a4 wsJ6_bitCount_0f7a4) := goodIn_app (goodIn_of _ (by decide +kernel)) ggX6_pointsFor_J6_bitCount_0f7a4
theorem dX6_pointsFor_0 : decode cX6_pointsFor 0 = .ok (.iload_n 0, 1) := by decide +kernel
theorem dX6_pointsFor_1 : decode cX6_pointsFor 1 = .ok (.iload_n 1, 1) := by decide +kernel
theorem dX6_pointsFor_2 : decode cX6_pointsFor 2 = .ok (.iconst (-1), 1) := by decide +kernel
theorem dX6_pointsFor_3 : decode cX6_pointsFor 3 = .ok (.ixor, 1) := by decide +kernel
theorem dX6_pointsFor_4 : decode cX6_pointsFor 4 = .ok (.iand, 1) := by decide +kernel
theorem dX6_pointsFor_5 : decode cX6_pointsFor 5 = .ok (.istore 4, 2) := by decide +kernel
theorem dX6_pointsFor_7 : decode cX6_pointsFor 7 = .ok (.iconst 4, 1) := by decide +kernel
theorem dX6_pointsFor_8 : decode cX6_pointsFor 8 = .ok (.iload_n 0, 1) := by decide +kernel
theorem dX6_pointsFor_9 : decode cX6_pointsFor 9 = .ok (.iload_n 1, 1) := by decide +kernel
theorem dX6_pointsFor_10 : decode cX6_pointsFor 10 = .ok (.iand, 1) := by decide +kernel
theorem dX6_pointsFor_11 : decode cX6_pointsFor 11 = .ok (.invokestatic 208, 3) := by decide +kernel
theorem dX6_pointsFor_14 : decode cX6_pointsFor 14 = .ok (.imul, 1) := by decide +kernel
theorem dX6_pointsFor_15 : decode cX6_pointsFor 15 = .ok (.istore 5, 2) := by decide +kernel
theorem dX6_pointsFor_17 : decode cX6_pointsFor 17 = .ok (.iload_n 2, 1) := by decide +kernel
theorem dX6_pointsFor_18 : decode cX6_pointsFor 18 = .ok (.ifCond .eq 14, 3) := by decide +kernel
theorem dX6_pointsFor_21 : decode cX6_pointsFor 21 = .ok (.iload 5, 2) := by decide +kernel
theorem dX6_pointsFor_23 : decode cX6_pointsFor 23 = .ok (.iconst 2, 1) := by decide +kernel
theorem dX6_pointsFor_24 : decode cX6_pointsFor 24 = .ok (.iload 4, 2) := by decide +kernel
theorem dX6_pointsFor_26 : decode cX6_pointsFor 26 = .ok (.invokestatic 208, 3) := by decide +kernel
theorem dX6_pointsFor_29 : decode cX6_pointsFor 29 = .ok (.imul, 1) := by decide +kernel
theorem dX6_pointsFor_30 : decode cX6_pointsFor 30 = .ok (.iadd, 1) := by decide +kernel
theorem dX6_pointsFor_31 : decode cX6_pointsFor 31 = .ok (.ireturn, 1) := by decide +kernel
theorem dX6_pointsFor_32 : decode cX6_pointsFor 32 = .ok (.iload 5, 2) := by decide +kernel
theorem dX6_pointsFor_34 : decode cX6_pointsFor 34 = .ok (.iconst 1, 1) := by decide +kernel
theorem dX6_pointsFor_35 : decode cX6_pointsFor 35 = .ok (.iload 4, 2) := by decide +kernel
theorem dX6_pointsFor_37 : decode cX6_pointsFor 37 = .ok (.iload_n 3, 1) := by decide +kernel
theorem dX6_pointsFor_38 : decode cX6_pointsFor 38 = .ok (.iand, 1) := by decide +kernel
theorem dX6_pointsFor_39 : decode cX6_pointsFor 39 = .ok (.invokestatic 208, 3) := by decide +kernel
theorem dX6_pointsFor_42 : decode cX6_pointsFor 42 = .ok (.imul, 1) := by decide +kernel
theorem dX6_pointsFor_43 : decode cX6_pointsFor 43 = .ok (.iadd, 1) := by decide +kernel
theorem dX6_pointsFor_44 : decode cX6_pointsFor 44 = .ok (.ireturn, 1) := by decide +kernel
theorem dX6_verdictWorth_0 : decode cX6_verdictWorth 0 = .ok (.iload_n 0, 1) := by decide +kernel
theorem dX6_verdictWorth_1 : decode cX6_verdictWorth 1 = .ok (.tableswitch 37 1 4 #[35, 33, 37, 31], 31) := by decide +kernel
theorem dX6_verdictWorth_32 : decode cX6_verdictWorth 32 = .ok (.iconst 3, 1) := by decide +kernel
theorem dX6_verdictWorth_33 : decode cX6_verdictWorth 33 = .ok (.ireturn, 1) := by decide +kernel
theorem dX6_verdictWorth_34 : decode cX6_verdictWorth 34 = .ok (.iconst 2, 1) := by decide +kernel
theorem dX6_verdictWorth_35 : decode cX6_verdictWorth 35 = .ok (.ireturn, 1) := by decide +kernel
theorem dX6_verdictWorth_36 : decode cX6_verdictWorth 36 = .ok (.iconst 1, 1) := by decide +kernel
theorem dX6_verdictWorth_37 : decode cX6_verdictWorth 37 = .ok (.ireturn, 1) := by decide +kernel
theorem dX6_verdictWorth_38 : decode cX6_verdictWorth 38 = .ok (.iconst 0, 1) := by decide +kernel
theorem dX6_verdictWorth_39 : decode cX6_verdictWorth 39 = .ok (.ireturn, 1) := by decide +kernel
theorem dX7_init_0 : decode cX7_init 0 = .ok (.aload_n 0, 1) := by decide +kernel
theorem dX7_init_1 : decode cX7_init 1 = .ok (.invokespecial 1, 3) := by decide +kernel
theorem dX7_init_4 : decode cX7_init 4 = .ok (.aload_n 0, 1) := by decide +kernel
theorem dX7_init_5 : decode cX7_init 5 = .ok (.iconst 4, 1) := by decide +kernel
theorem dX7_init_6 : decode cX7_init 6 = .ok (.newarray .int, 2) := by decide +kernel
theorem dX7_init_8 : decode cX7_init 8 = .ok (.putfield 7, 3) := by decide +kernel
theorem dX7_init_11 : decode cX7_init 11 = .ok (.aload_n 0, 1) := by decide +kernel
theorem dX7_init_12 : decode cX7_init 12 = .ok (.bipush 20, 2) := by decide +kernel
theorem dX7_init_14 : decode cX7_init 14 = .ok (.newarray .int, 2) := by decide +kernel
theorem dX7_init_16 : decode cX7_init 16 = .ok (.putfield 13, 3) := by decide +kernel
theorem dX7_init_19 : decode cX7_init 19 = .ok (.aload_n 0, 1) := by decide +kernel
theorem dX7_init_20 : decode cX7_init 20 = .ok (.sipush 400, 3) := by decide +kernel
theorem dX7_init_23 : decode cX7_init 23 = .ok (.newarray .boolean, 2) := by decide +kernel
theorem dX7_init_25 : decode cX7_init 25 = .ok (.putfield 16, 3) := by decide +kernel
theorem dX7_init_28 : decode cX7_init 28 = .ok (.aload_n 0, 1) := by decide +kernel
theorem dX7_init_29 : decode cX7_init 29 = .ok (.sipush 400, 3) := by decide +kernel
theorem dX7_init_32 : decode cX7_init 32 = .ok (.newarray .boolean, 2) := by decide +kernel
theorem dX7_init_34 : decode cX7_init 34 = .ok (.putfield 20, 3) := by decide +kernel
theorem dX7_init_37 : decode cX7_init 37 = .ok (.aload_n 0, 1) := by decide +kernel
theorem dX7_init_38 : decode cX7_init 38 = .ok (.bipush 32, 2) := by decide +kernel
theorem dX7_init_40 : decode cX7_init 40 = .ok (.newarray .int, 2) := by decide +kernel
theorem dX7_init_42 : decode cX7_init 42 = .ok (.putfield 23, 3) := by decide +kernel
theorem dX7_init_45 : decode cX7_init 45 = .ok (.aload_n 0, 1) := by decide +kernel
theorem dX7_init_46 : decode cX7_init 46 = .ok (.bipush 16, 2) := by decide +kernel
theorem dX7_init_48 : decode cX7_init 48 = .ok (.newarray .int, 2) := by decide +kernel
theorem dX7_init_50 : decode cX7_init 50 = .ok (.putfield 26, 3) := by decide +kernel
theorem dX7_init_53 : decode cX7_init 53 = .ok (.aload_n 0, 1) := by decide +kernel
theorem dX7_init_54 : decode cX7_init 54 = .ok (.iconst 5, 1) := by decide +kernel
theorem dX7_init_55 : decode cX7_init 55 = .ok (.newarray .int, 2) := by decide +kernel
theorem dX7_init_57 : decode cX7_init 57 = .ok (.putfield 29, 3) := by decide +kernel
theorem dX7_init_60 : decode cX7_init 60 = .ok (.aload_n 0, 1) := by decide +kernel
theorem dX7_init_61 : decode cX7_init 61 = .ok (.iconst 5, 1) := by decide +kernel
theorem dX7_init_62 : decode cX7_init 62 = .ok (.newarray .int, 2) := by decide +kernel
theorem dX7_init_64 : decode cX7_init 64 = .ok (.putfield 32, 3) := by decide +kernel
theorem dX7_init_67 : decode cX7_init 67 = .ok (.aload_n 0, 1) := by decide +kernel
theorem dX7_init_68 : decode cX7_init 68 = .ok (.iconst 5, 1) := by decide +kernel
theorem dX7_init_69 : decode cX7_init 69 = .ok (.newarray .int, 2) := by decide +kernel
theorem dX7_init_71 : decode cX7_init 71 = .ok (.putfield 35, 3) := by decide +kernel
theorem dX7_init_74 : decode cX7_init 74 = .ok (.iconst 0, 1) := by decide +kernel
theorem dX7_init_75 : decode cX7_init 75 = .ok (.istore_n 1, 1) := by decide +kernel
theorem dX7_init_76 : decode cX7_init 76 = .ok (.iload_n 1, 1) := by decide +kernel
theorem dX7_init_77 : decode cX7_init 77 = .ok (.bipush 32, 2) := by decide +kernel
theorem dX7_init_79 : decode cX7_init 79 = .ok (.if_icmp .ge 16, 3) := by decide +kernel
theorem dX7_init_82 : decode cX7_init 82 = .ok (.aload_n 0, 1) := by decide +kernel
theorem dX7_init_83 : decode cX7_init 83 = .ok (.getfield 23, 3) := by decide +kernel
theorem dX7_init_86 : decode cX7_init 86 = .ok (.iload_n 1, 1) := by decide +kernel
theorem dX7_init_87 : decode cX7_init 87 = .ok (.iload_n 1, 1) := by decide +kernel
theorem dX7_init_88 : decode cX7_init 88 = .ok (.iastore, 1) := by decide +kernel
theorem dX7_init_89 : decode cX7_init 89 = .ok (.iinc 1 1, 3) := by decide +kernel
theorem dX7_init_92 : decode cX7_init 92 = .ok (.goto (-16), 3) := by decide +kernel
theorem dX7_init_95 : decode cX7_init 95 = .ok (.iconst 0, 1) := by decide +kernel
theorem dX7_init_96 : decode cX7_init 96 = .ok (.istore_n 1, 1) := by decide +kernel
theorem dX7_init_97 : decode cX7_init 97 = .ok (.iload_n 1, 1) := by decide +kernel
theorem dX7_init_98 : decode cX7_init 98 = .ok (.bipush 16, 2) := by decide +kernel
theorem dX7_init_100 : decode cX7_init 100 = .ok (.if_icmp .ge 16, 3) := by decide +kernel
theorem dX7_init_103 : decode cX7_init 103 = .ok (.aload_n 0, 1) := by decide +kernel
theorem dX7_init_104 : decode cX7_init 104 = .ok (.getfield 26, 3) := by decide +kernel
theorem dX7_init_107 : decode cX7_init 107 = .ok (.iload_n 1, 1) := by decide +kernel
theorem dX7_init_108 : decode cX7_init 108 = .ok (.iconst (-1), 1) := by decide +kernel
theorem dX7_init_109 : decode cX7_init 109 = .ok (.iastore, 1) := by decide +kernel
theorem dX7_init_110 : decode cX7_init 110 = .ok (.iinc 1 1, 3) := by decide +kernel
theorem dX7_init_113 : decode cX7_init 113 = .ok (.goto (-16), 3) := by decide +kernel
theorem dX7_init_116 : decode cX7_init 116 = .ok (.return_, 1) := by decide +kernel
theorem dX7_thrown_0 : decode cX7_thrown 0 = .ok (.aload_n 0, 1) := by decide +kernel
theorem dX7_thrown_1 : decode cX7_thrown 1 = .ok (.getfield 38, 3) := by decide +kernel
theorem dX7_thrown_4 : decode cX7_thrown 4 = .ok (.ireturn, 1) := by decide +kernel
theorem dX7_fails_0 : decode cX7_fails 0 = .ok (.aload_n 0, 1) := by decide +kernel
theorem dX7_fails_1 : decode cX7_fails 1 = .ok (.iload_n 1, 1) := by decide +kernel
theorem dX7_fails_2 : decode cX7_fails 2 = .ok (.putfield 38, 3) := by decide +kernel
theorem dX7_fails_5 : decode cX7_fails 5 = .ok (.iconst 0, 1) := by decide +kernel
theorem dX7_fails_6 : decode cX7_fails 6 = .ok (.ireturn, 1) := by decide +kernel
theorem dX7_asks_0 : decode cX7_asks 0 = .ok (.aload_n 0, 1) := by decide +kernel
theorem dX7_asks_1 : decode cX7_asks 1 = .ok (.iload_n 1, 1) := by decide +kernel
theorem dX7_asks_2 : decode cX7_asks 2 = .ok (.ifCond .eq 7, 3) := by decide +kernel
theorem dX7_asks_5 : decode cX7_asks 5 = .ok (.iconst 0, 1) := by decide +kernel
theorem dX7_asks_6 : decode cX7_asks 6 = .ok (.goto 4, 3) := by decide +kernel
theorem dX7_asks_9 : decode cX7_asks 9 = .ok (.iconst 1, 1) := by decide +kernel
theorem dX7_asks_10 : decode cX7_asks 10 = .ok (.putfield 38, 3) := by decide +kernel
theorem dX7_asks_13 : decode cX7_asks 13 = .ok (.iload_n 1, 1) := by decide +kernel
theorem dX7_asks_14 : decode cX7_asks 14 = .ok (.ireturn, 1) := by decide +kernel
theorem dX7_isMap_0 : decode cX7_isMap 0 = .ok (.iload_n 0, 1) := by decide +kernel
theorem dX7_isMap_1 : decode cX7_isMap 1 = .ok (.ifCond .lt 12, 3) := by decide +kernel
theorem dX7_isMap_4 : decode cX7_isMap 4 = .ok (.iload_n 0, 1) := by decide +kernel
theorem dX7_isMap_5 : decode cX7_isMap 5 = .ok (.iconst 4, 1) := by decide +kernel
theorem dX7_isMap_6 : decode cX7_isMap 6 = .ok (.if_icmp .ge 7, 3) := by decide +kernel
theorem dX7_isMap_9 : decode cX7_isMap 9 = .ok (.iconst 1, 1) := by decide +kernel
theorem dX7_isMap_10 : decode cX7_isMap 10 = .ok (.goto 4, 3) := by decide +kernel
theorem dX7_isMap_13 : decode cX7_isMap 13 = .ok (.iconst 0, 1) := by decide +kernel
theorem dX7_isMap_14 : decode cX7_isMap 14 = .ok (.ireturn, 1) := by decide +kernel
theorem dX7_isModel_0 : decode cX7_isModel 0 = .ok (.iload_n 0, 1) := by decide +kernel
theorem dX7_isModel_1 : decode cX7_isModel 1 = .ok (.ifCond .le 12, 3) := by decide +kernel
theorem dX7_isModel_4 : decode cX7_isModel 4 = .ok (.iload_n 0, 1) := by decide +kernel
theorem dX7_isModel_5 : decode cX7_isModel 5 = .ok (.iconst 4, 1) := by decide +kernel
theorem dX7_isModel_6 : decode cX7_isModel 6 = .ok (.if_icmp .ge 7, 3) := by decide +kernel
theorem dX7_isModel_9 : decode cX7_isModel 9 = .ok (.iconst 1, 1) := by decide +kernel
theorem dX7_isModel_10 : decode cX7_isModel 10 = .ok (.goto 4, 3) := by decide +kernel
theorem dX7_isModel_13 : decode cX7_isModel 13 = .ok (.iconst 0, 1) := by decide +kernel
theorem dX7_isModel_14 : decode cX7_isModel 14 = .ok (.ireturn, 1) := by decide +kernel
theorem dX7_isWord_0 : decode cX7_isWord 0 = .ok (.iload_n 0, 1) := by decide +kernel
theorem dX7_isWord_1 : decode cX7_isWord 1 = .ok (.ifCond .lt 13, 3) := by decide +kernel
theorem dX7_isWord_4 : decode cX7_isWord 4 = .ok (.iload_n 0, 1) := by decide +kernel
theorem dX7_isWord_5 : decode cX7_isWord 5 = .ok (.bipush 32, 2) := by decide +kernel
theorem dX7_isWord_7 : decode cX7_isWord 7 = .ok (.if_icmp .ge 7, 3) := by decide +kernel
theorem dX7_isWord_10 : decode cX7_isWord 10 = .ok (.iconst 1, 1) := by decide +kernel
theorem dX7_isWord_11 : decode cX7_isWord 11 = .ok (.goto 4, 3) := by decide +kernel
theorem dX7_isWord_14 : decode cX7_isWord 14 = .ok (.iconst 0, 1) := by decide +kernel
theorem dX7_isWord_15 : decode cX7_isWord 15 = .ok (.ireturn, 1) := by decide +kernel
theorem dX7_isKind_0 : decode cX7_isKind 0 = .ok (.iload_n 0, 1) := by decide +kernel
theorem dX7_isKind_1 : decode cX7_isKind 1 = .ok (.ifCond .lt 12, 3) := by decide +kernel
theorem dX7_isKind_4 : decode cX7_isKind 4 = .ok (.iload_n 0, 1) := by decide +kernel
theorem dX7_isKind_5 : decode cX7_isKind 5 = .ok (.iconst 4, 1) := by decide +kernel
theorem dX7_isKind_6 : decode cX7_isKind 6 = .ok (.if_icmp .ge 7, 3) := by decide +kernel
theorem dX7_isKind_9 : decode cX7_isKind 9 = .ok (.iconst 1, 1) := by decide +kernel
theorem dX7_isKind_10 : decode cX7_isKind 10 = .ok (.goto 4, 3) := by decide +kernel
theorem dX7_isKind_13 : decode cX7_isKind 13 = .ok (.iconst 0, 1) := by decide +kernel
theorem dX7_isKind_14 : decode cX7_isKind 14 = .ok (.ireturn, 1) := by decide +kernel
set_option maxRecDepth 20000 in
theorem ggX7_isIdea_X7_isMap : GoodIn wsX7_isIdea wsX7_isMap := goodIn_r _ [5] (by decide +kernel) (by decide +kernel)
set_option maxRecDepth 20000 in
theorem gX7_isIdea_X7_isMap : GoodIn wsX7_isIdea (va_wsS RX7 42 yX7_isMap wsX7_isMap) := goodIn_app (goodIn_of _ (by decide +kernel)) ggX7_isIdea_X7_isMap
theorem dX7_isIdea_0 : decode cX7_isIdea 0 = .ok (.iload_n 1, 1) := by decide +kernel
theorem dX7_isIdea_1 : decode cX7_isIdea 1 = .ok (.invokestatic 42, 3) := by decide +kernel
theorem dX7_isIdea_4 : decode cX7_isIdea 4 = .ok (.ifCond .eq 21, 3) := by decide +kernel
theorem dX7_isIdea_7 : decode cX7_isIdea 7 = .ok (.iload_n 2, 1) := by decide +kernel
theorem dX7_isIdea_8 : decode cX7_isIdea 8 = .ok (.ifCond .lt 17, 3) := by decide +kernel
theorem dX7_isIdea_11 : decode cX7_isIdea 11 = .ok (.iload_n 2, 1) := by decide +kernel
theorem dX7_isIdea_12 : decode cX7_isIdea 12 = .ok (.aload_n 0, 1) := by decide +kernel
theorem dX7_isIdea_13 : decode cX7_isIdea 13 = .ok (.getfield 7, 3) := by decide +kernel
theorem dX7_isIdea_16 : decode cX7_isIdea 16 = .ok (.iload_n 1, 1) := by decide +kernel
theorem dX7_isIdea_17 : decode cX7_isIdea 17 = .ok (.iaload, 1) := by decide +kernel
theorem dX7_isIdea_18 : decode cX7_isIdea 18 = .ok (.if_icmp .ge 7, 3) := by decide +kernel
theorem dX7_isIdea_21 : decode cX7_isIdea 21 = .ok (.iconst 1, 1) := by decide +kernel
theorem dX7_isIdea_22 : decode cX7_isIdea 22 = .ok (.goto 4, 3) := by decide +kernel
theorem dX7_isIdea_25 : decode cX7_isIdea 25 = .ok (.iconst 0, 1) := by decide +kernel
theorem dX7_isIdea_26 : decode cX7_isIdea 26 = .ok (.ireturn, 1) := by decide +kernel
theorem dX7_at_0 : decode cX7_at 0 = .ok (.bipush 100, 2) := by decide +kernel
theorem dX7_at_2 : decode cX7_at 2 = .ok (.iload_n 0, 1) := by decide +kernel
theorem dX7_at_3 : decode cX7_at 3 = .ok (.imul, 1) := by decide +kernel
theorem dX7_at_4 : decode cX7_at 4 = .ok (.bipush 20, 2) := by decide +kernel
theorem dX7_at_6 : decode cX7_at 6 = .ok (.iload_n 1, 1) := by decide +kernel
theorem dX7_at_7 : decode cX7_at 7 = .ok (.imul, 1) := by decide +kernel
theorem dX7_at_8 : decode cX7_at 8 = .ok (.iadd, 1) := by decide +kernel
theorem dX7_at_9 : decode cX7_at 9 = .ok (.iconst 4, 1) := by decide +kernel
theorem dX7_at_10 : decode cX7_at 10 = .ok (.iload_n 2, 1) := by decide +kernel
theorem dX7_at_11 : decode cX7_at 11 = .ok (.imul, 1) := by decide +kernel
theorem dX7_at_12 : decode cX7_at 12 = .ok (.iadd, 1) := by decide +kernel
theorem dX7_at_13 : decode cX7_at 13 = .ok (.iload_n 3, 1) := by decide +kernel
theorem dX7_at_14 : decode cX7_at 14 = .ok (.iadd, 1) := by decide +kernel
theorem dX7_at_15 : decode cX7_at 15 = .ok (.ireturn, 1) := by decide +kernel
set_option maxRecDepth 20000 in
theorem ggX7_addIdea_X7_isMap : GoodIn wsX7_addIdea wsX7_isMap := goodIn_r _ [6] (by decide +kernel) (by decide +kernel)
set_option maxRecDepth 20000 in
theorem gX7_addIdea_X7_isMap : GoodIn wsX7_addIdea (va_wsS RX7 42 yX7_isMap wsX7_isMap) := goodIn_app (goodIn_of _ (by decide +kernel)) ggX7_addIdea_X7_isMap
set_option maxRecDepth 20000 in
theorem ggX7_addIdea_X7_isWord : GoodIn wsX7_addIdea wsX7_isWord := goodIn_r _ [9] (by decide +kernel) (by decide +kernel)
set_option maxRecDepth 20000 in
theorem gX7_addIdea_X7_isWord : GoodIn wsX7_addIdea (va_wsS RX7 46 yX7_isWord wsX7_isWord) := goodIn_app (goodIn_of _ (by decide +kernel)) ggX7_addIdea_X7_isWord
set_option maxRecDepth 20000 in
theorem ggX7_addIdea_X7_asks : GoodIn wsX7_addIdea wsX7_asks := goodIn_r _ [13, 14, 19, 20, 21, 22, 23, 24, 25, 26, 27, 28, 29, 30] (by decide +kernel) (by decide +kernel)
set_option maxRecDepth 20000 in
theorem gX7_addIdea_X7_asks : GoodIn wsX7_addIdea (wsV RX7 49 RX7 yX7_asks wsX7_asks) := goodIn_app (goodIn_of _ (by decide +kernel)) ggX7_addIdea_X7_asks
set_option maxRecDepth 20000 in
theorem ggX7_addIdea_X7_fails : GoodIn wsX7_addIdea wsX7_fails := goodIn_r _ [18, 14, 19, 20, 21, 22, 23, 24, 25, 26, 27, 28, 29, 30] (by decide +kernel) (by decide +kernel)
set_option maxRecDepth 20000 in
theorem gX7_addIdea_X7_fails : GoodIn wsX7_addIdea (wsV RX7 53 RX7 yX7_fails wsX7_fails) := goodIn_app (goodIn_of _ (by decide +kernel)) ggX7_addIdea_X7_fails
theorem dX7_addIdea_0 : decode cX7_addIdea 0 = .ok (.aload_n 0, 1) := by decide +kernel
theorem dX7_addIdea_1 : decode cX7_addIdea 1 = .ok (.iload_n 1, 1) := by decide +kernel
theorem dX7_addIdea_2 : decode cX7_addIdea 2 = .ok (.invokestatic 42, 3) := by decide +kernel
theorem dX7_addIdea_5 : decode cX7_addIdea 5 = .ok (.ifCond .eq 14, 3) := by decide +kernel
theorem dX7_addIdea_8 : decode cX7_addIdea 8 = .ok (.iload_n 2, 1) := by decide +kernel
theorem dX7_addIdea_9 : decode cX7_addIdea 9 = .ok (.invokestatic 46, 3) := by decide +kernel
theorem dX7_addIdea_12 : decode cX7_addIdea 12 = .ok (.ifCond .eq 7, 3) := by decide +kernel
theorem dX7_addIdea_15 : decode cX7_addIdea 15 = .ok (.iconst 1, 1) := by decide +kernel
theorem dX7_addIdea_16 : decode cX7_addIdea 16 = .ok (.goto 4, 3) := by decide +kernel
theorem dX7_addIdea_19 : decode cX7_addIdea 19 = .ok (.iconst 0, 1) := by decide +kernel
theorem dX7_addIdea_20 : decode cX7_addIdea 20 = .ok (.invokevirtual 49, 3) := by decide +kernel
theorem dX7_addIdea_23 : decode cX7_addIdea 23 = .ok (.ifCond .ne 5, 3) := by decide +kernel
theorem dX7_addIdea_26 : decode cX7_addIdea 26 = .ok (.iconst 0, 1) := by decide +kernel
theorem dX7_addIdea_27 : decode cX7_addIdea 27 = .ok (.ireturn, 1) := by decide +kernel
theorem dX7_addIdea_28 : decode cX7_addIdea 28 = .ok (.aload_n 0, 1) := by decide +kernel
theorem dX7_addIdea_29 : decode cX7_addIdea 29 = .ok (.getfield 7, 3) := by decide +kernel
theorem dX7_addIdea_32 : decode cX7_addIdea 32 = .ok (.iload_n 1, 1) := by decide +kernel
theorem dX7_addIdea_33 : decode cX7_addIdea 33 = .ok (.iaload, 1) := by decide +kernel
theorem dX7_addIdea_34 : decode cX7_addIdea 34 = .ok (.iconst 5, 1) := by decide +kernel
theorem dX7_addIdea_35 : decode cX7_addIdea 35 = .ok (.if_icmp .ne 9, 3) := by decide +kernel
theorem dX7_addIdea_38 : decode cX7_addIdea 38 = .ok (.aload_n 0, 1) := by decide +kernel
theorem dX7_addIdea_39 : decode cX7_addIdea 39 = .ok (.iconst 2, 1) := by decide +kernel
theorem dX7_addIdea_40 : decode cX7_addIdea 40 = .ok (.invokevirtual 53, 3) := by decide +kernel
theorem dX7_addIdea_43 : decode cX7_addIdea 43 = .ok (.ireturn, 1) := by decide +kernel
theorem dX7_addIdea_44 : decode cX7_addIdea 44 = .ok (.aload_n 0, 1) := by decide +kernel
theorem dX7_addIdea_45 : decode cX7_addIdea 45 = .ok (.getfield 13, 3) := by decide +kernel
theorem dX7_addIdea_48 : decode cX7_addIdea 48 = .ok (.iconst 5, 1) := by decide +kernel
theorem dX7_addIdea_49 : decode cX7_addIdea 49 = .ok (.iload_n 1, 1) := by decide +kernel
theorem dX7_addIdea_50 : decode cX7_addIdea 50 = .ok (.imul, 1) := by decide +kernel
theorem dX7_addIdea_51 : decode cX7_addIdea 51 = .ok (.aload_n 0, 1) := by decide +kernel
theorem dX7_addIdea_52 : decode cX7_addIdea 52 = .ok (.getfield 7, 3) := by decide +kernel
theorem dX7_addIdea_55 : decode cX7_addIdea 55 = .ok (.iload_n 1, 1) := by decide +kernel
theorem dX7_addIdea_56 : decode cX7_addIdea 56 = .ok (.iaload, 1) := by decide +kernel
theorem dX7_addIdea_57 : decode cX7_addIdea 57 = .ok (.iadd, 1) := by decide +kernel
theorem dX7_addIdea_58 : decode cX7_addIdea 58 = .ok (.iload_n 2, 1) := by decide +kernel
theorem dX7_addIdea_59 : decode cX7_addIdea 59 = .ok (.iastore, 1) := by decide +kernel
theorem dX7_addIdea_60 : decode cX7_addIdea 60 = .ok (.aload_n 0, 1) := by decide +kernel
theorem dX7_addIdea_61 : decode cX7_addIdea 61 = .ok (.getfield 7, 3) := by decide +kernel
theorem dX7_addIdea_64 : decode cX7_addIdea 64 = .ok (.iload_n 1, 1) := by decide +kernel
theorem dX7_addIdea_65 : decode cX7_addIdea 65 = .ok (.dup2, 1) := by decide +kernel
theorem dX7_addIdea_66 : decode cX7_addIdea 66 = .ok (.iaload, 1) := by decide +kernel
theorem dX7_addIdea_67 : decode cX7_addIdea 67 = .ok (.iconst 1, 1) := by decide +kernel
theorem dX7_addIdea_68 : decode cX7_addIdea 68 = .ok (.iadd, 1) := by decide +kernel
theorem dX7_addIdea_69 : decode cX7_addIdea 69 = .ok (.iastore, 1) := by decide +kernel
theorem dX7_addIdea_70 : decode cX7_addIdea 70 = .ok (.aload_n 0, 1) := by decide +kernel
theorem dX7_addIdea_71 : decode cX7_addIdea 71 = .ok (.getfield 7, 3) := by decide +kernel
theorem dX7_addIdea_74 : decode cX7_addIdea 74 = .ok (.iload_n 1, 1) := by decide +kernel
theorem dX7_addIdea_75 : decode cX7_addIdea 75 = .ok (.iaload, 1) := by decide +kernel
theorem dX7_addIdea_76 : decode cX7_addIdea 76 = .ok (.iconst 1, 1) := by decide +kernel
theorem dX7_addIdea_77 : decode cX7_addIdea 77 = .ok (.isub, 1) := by decide +kernel
theorem dX7_addIdea_78 : decode cX7_addIdea 78 = .ok (.ireturn, 1) := by decide +kernel
set_option maxRecDepth 20000 in
theorem ggX7_asksLink_X7_isIdea : GoodIn wsX7_asksLink wsX7_isIdea := goodIn_r _ [6, 7, 8, 9, 5, 10, 14, 15, 16, 17, 18, 19, 20, 21, 22, 23, 24, 25] (by decide +kernel) (by decide +kernel)
set_option maxRecDepth 20000 in
theorem gX7_asksLink_X7_isIdea : GoodIn wsX7_asksLink (wsV RX7 57 RX7 yX7_isIdea wsX7_isIdea) := goodIn_app (goodIn_of _ (by decide +kernel)) ggX7_asksLink_X7_isIdea
set_option maxRecDepth 20000 in
theorem ggX7_asksLink_X7_isKind : GoodIn wsX7_asksLink wsX7_isKind := goodIn_r _ [13] (by decide +kernel) (by decide +kernel)
set_option maxRecDepth 20000 in
theorem gX7_asksLink_X7_isKind : GoodIn wsX7_asksLink (va_wsS RX7 61 yX7_isKind wsX7_isKind) := goodIn_app (goodIn_of _ (by decide +kernel)) ggX7_asksLink_X7_isKind
theorem dX7_asksLink_0 : decode cX7_asksLink 0 = .ok (.aload_n 0, 1) := by decide +kernel
theorem dX7_asksLink_1 : decode cX7_asksLink 1 = .ok (.aload_n 0, 1) := by decide +kernel
theorem dX7_asksLink_2 : decode cX7_asksLink 2 = .ok (.iload_n 1, 1) := by decide +kernel
theorem dX7_asksLink_3 : decode cX7_asksLink 3 = .ok (.iload_n 2, 1) := by decide +kernel
theorem dX7_asksLink_4 : decode cX7_asksLink 4 = .ok (.invokevirtual 57, 3) := by decide +kernel
theorem dX7_asksLink_7 : decode cX7_asksLink 7 = .ok (.ifCond .eq 12, 3) := by decide +kernel
theorem dX7_asksLink_10 : decode cX7_asksLink 10 = .ok (.aload_n 0, 1) := by decide +kernel
theorem dX7_asksLink_11 : decode cX7_asksLink 11 = .ok (.iload_n 1, 1) := by decide +kernel
theorem dX7_asksLink_12 : decode cX7_asksLink 12 = .ok (.iload_n 3, 1) := by decide +kernel
theorem dX7_asksLink_13 : decode cX7_asksLink 13 = .ok (.invokevirtual 57, 3) := by decide +kernel
theorem dX7_asksLink_16 : decode cX7_asksLink 16 = .ok (.ifCond .ne 7, 3) := by decide +kernel
theorem dX7_asksLink_19 : decode cX7_asksLink 19 = .ok (.iconst 1, 1) := by decide +kernel
theorem dX7_asksLink_20 : decode cX7_asksLink 20 = .ok (.goto 21, 3) := by decide +kernel
theorem dX7_asksLink_23 : decode cX7_asksLink 23 = .ok (.iload_n 2, 1) := by decide +kernel
theorem dX7_asksLink_24 : decode cX7_asksLink 24 = .ok (.iload_n 3, 1) := by decide +kernel
theorem dX7_asksLink_25 : decode cX7_asksLink 25 = .ok (.if_icmp .eq 11, 3) := by decide +kernel
theorem dX7_asksLink_28 : decode cX7_asksLink 28 = .ok (.iload 4, 2) := by decide +kernel
theorem dX7_asksLink_30 : decode cX7_asksLink 30 = .ok (.invokestatic 61, 3) := by decide +kernel
theorem dX7_asksLink_33 : decode cX7_asksLink 33 = .ok (.ifCond .ne 7, 3) := by decide +kernel
theorem dX7_asksLink_36 : decode cX7_asksLink 36 = .ok (.iconst 2, 1) := by decide +kernel
theorem dX7_asksLink_37 : decode cX7_asksLink 37 = .ok (.goto 4, 3) := by decide +kernel
theorem dX7_asksLink_40 : decode cX7_asksLink 40 = .ok (.iconst 0, 1) := by decide +kernel
theorem dX7_asksLink_41 : decode cX7_asksLink 41 = .ok (.putfield 38, 3) := by decide +kernel
theorem dX7_asksLink_44 : decode cX7_asksLink 44 = .ok (.aload_n 0, 1) := by decide +kernel
theorem dX7_asksLink_45 : decode cX7_asksLink 45 = .ok (.getfield 38, 3) := by decide +kernel
theorem dX7_asksLink_48 : decode cX7_asksLink 48 = .ok (.ifCond .ne 7, 3) := by decide +kernel
theorem dX7_asksLink_51 : decode cX7_asksLink 51 = .ok (.iconst 1, 1) := by decide +kernel
theorem dX7_asksLink_52 : decode cX7_asksLink 52 = .ok (.goto 4, 3) := by decide +kernel
theorem dX7_asksLink_55 : decode cX7_asksLink 55 = .ok (.iconst 0, 1) := by decide +kernel
theorem dX7_asksLink_56 : decode cX7_asksLink 56 = .ok (.ireturn, 1) := by decide +kernel
set_option maxRecDepth 20000 in
theorem ggX7_link_X7_asksLink : GoodIn wsX7_link wsX7_asksLink := goodIn_r _ [6, 7, 8, 9, 10, 5, 11, 12, 13, 14, 15, 16, 17, 18, 22, 23, 24, 25, 26, 27, 28, 29, 30, 31, 32, 33] (by decide +kernel) (by decide +kernel)
set_option maxRecDepth 20000 in
theorem gX7_link_X7_asksLink : GoodIn wsX7_link (wsV RX7 64 RX7 yX7_asksLink wsX7_asksLink) := goodIn_app (goodIn_of _ (by decide +kernel)) ggX7_link_X7_asksLink
set_option maxRecDepth 20000 in
theorem ggX7_link_X7_at : GoodIn wsX7_link wsX7_at := goodIn_r _ [21] (by decide +kernel) (by decide +kernel)
set_option maxRecDepth 20000 in
theorem gX7_link_X7_at : GoodIn wsX7_link (va_wsS RX7 68 yX7_at wsX7_at) := goodIn_app (goodIn_of _ (by decide +kernel)) ggX7_link_X7_at
theorem dX7_link_0 : decode cX7_link 0 = .ok (.aload_n 0, 1) := by decide +kernel
theorem dX7_link_1 : decode cX7_link 1 = .ok (.iload_n 1, 1) := by decide +kernel
theorem dX7_link_2 : decode cX7_link 2 = .ok (.iload_n 2, 1) := by decide +kernel
theorem dX7_link_3 : decode cX7_link 3 = .ok (.iload_n 3, 1) := by decide +kernel
theorem dX7_link_4 : decode cX7_link 4 = .ok (.iload 4, 2) := by decide +kernel
theorem dX7_link_6 : decode cX7_link 6 = .ok (.invokevirtual 64, 3) := by decide +kernel
theorem dX7_link_9 : decode cX7_link 9 = .ok (.ifCond .ne 5, 3) := by decide +kernel
theorem dX7_link_12 : decode cX7_link 12 = .ok (.iconst 0, 1) := by decide +kernel
theorem dX7_link_13 : decode cX7_link 13 = .ok (.ireturn, 1) := by decide +kernel
theorem dX7_link_14 : decode cX7_link 14 = .ok (.aload_n 0, 1) := by decide +kernel
theorem dX7_link_15 : decode cX7_link 15 = .ok (.getfield 16, 3) := by decide +kernel
theorem dX7_link_18 : decode cX7_link 18 = .ok (.iload_n 1, 1) := by decide +kernel
theorem dX7_link_19 : decode cX7_link 19 = .ok (.iload_n 2, 1) := by decide +kernel
theorem dX7_link_20 : decode cX7_link 20 = .ok (.iload_n 3, 1) := by decide +kernel
theorem dX7_link_21 : decode cX7_link 21 = .ok (.iload 4, 2) := by decide +kernel
theorem dX7_link_23 : decode cX7_link 23 = .ok (.invokestatic 68, 3) := by decide +kernel
theorem dX7_link_26 : decode cX7_link 26 = .ok (.aload_n 0, 1) := by decide +kernel
theorem dX7_link_27 : decode cX7_link 27 = .ok (.getfield 16, 3) := by decide +kernel
theorem dX7_link_30 : decode cX7_link 30 = .ok (.iload_n 1, 1) := by decide +kernel
theorem dX7_link_31 : decode cX7_link 31 = .ok (.iload_n 2, 1) := by decide +kernel
theorem dX7_link_32 : decode cX7_link 32 = .ok (.iload_n 3, 1) := by decide +kernel
theorem dX7_link_33 : decode cX7_link 33 = .ok (.iload 4, 2) := by decide +kernel
theorem dX7_link_35 : decode cX7_link 35 = .ok (.invokestatic 68, 3) := by decide +kernel
theorem dX7_link_38 : decode cX7_link 38 = .ok (.baload, 1) := by decide +kernel
theorem dX7_link_39 : decode cX7_link 39 = .ok (.ifCond .ne 7, 3) := by decide +kernel
theorem dX7_link_42 : decode cX7_link 42 = .ok (.iconst 1, 1) := by decide +kernel
theorem dX7_link_43 : decode cX7_link 43 = .ok (.goto 4, 3) := by decide +kernel
theorem dX7_link_46 : decode cX7_link 46 = .ok (.iconst 0, 1) := by decide +kernel
theorem dX7_link_47 : decode cX7_link 47 = .ok (.bastore, 1) := by decide +kernel
theorem dX7_link_48 : decode cX7_link 48 = .ok (.aload_n 0, 1) := by decide +kernel
theorem dX7_link_49 : decode cX7_link 49 = .ok (.getfield 16, 3) := by decide +kernel
theorem dX7_link_52 : decode cX7_link 52 = .ok (.iload_n 1, 1) := by decide +kernel
theorem dX7_link_53 : decode cX7_link 53 = .ok (.iload_n 2, 1) := by decide +kernel
theorem dX7_link_54 : decode cX7_link 54 = .ok (.iload_n 3, 1) := by decide +kernel
theorem dX7_link_55 : decode cX7_link 55 = .ok (.iload 4, 2) := by decide +kernel
theorem dX7_link_57 : decode cX7_link 57 = .ok (.invokestatic 68, 3) := by decide +kernel
theorem dX7_link_60 : decode cX7_link 60 = .ok (.baload, 1) := by decide +kernel
theorem dX7_link_61 : decode cX7_link 61 = .ok (.ireturn, 1) := by decide +kernel
theorem dX7_linksOf_0 : decode cX7_linksOf 0 = .ok (.iconst 0, 1) := by decide +kernel
theorem dX7_linksOf_1 : decode cX7_linksOf 1 = .ok (.istore_n 2, 1) := by decide +kernel
theorem dX7_linksOf_2 : decode cX7_linksOf 2 = .ok (.bipush 100, 2) := by decide +kernel
theorem dX7_linksOf_4 : decode cX7_linksOf 4 = .ok (.iload_n 1, 1) := by decide +kernel
theorem dX7_linksOf_5 : decode cX7_linksOf 5 = .ok (.imul, 1) := by decide +kernel
theorem dX7_linksOf_6 : decode cX7_linksOf 6 = .ok (.istore_n 3, 1) := by decide +kernel
theorem dX7_linksOf_7 : decode cX7_linksOf 7 = .ok (.iload_n 3, 1) := by decide +kernel
theorem dX7_linksOf_8 : decode cX7_linksOf 8 = .ok (.bipush 100, 2) := by decide +kernel
theorem dX7_linksOf_10 : decode cX7_linksOf 10 = .ok (.iload_n 1, 1) := by decide +kernel
theorem dX7_linksOf_11 : decode cX7_linksOf 11 = .ok (.imul, 1) := by decide +kernel
theorem dX7_linksOf_12 : decode cX7_linksOf 12 = .ok (.bipush 100, 2) := by decide +kernel
theorem dX7_linksOf_14 : decode cX7_linksOf 14 = .ok (.iadd, 1) := by decide +kernel
theorem dX7_linksOf_15 : decode cX7_linksOf 15 = .ok (.if_icmp .ge 26, 3) := by decide +kernel
theorem dX7_linksOf_18 : decode cX7_linksOf 18 = .ok (.iload_n 2, 1) := by decide +kernel
theorem dX7_linksOf_19 : decode cX7_linksOf 19 = .ok (.aload_n 0, 1) := by decide +kernel
theorem dX7_linksOf_20 : decode cX7_linksOf 20 = .ok (.getfield 16, 3) := by decide +kernel
theorem dX7_linksOf_23 : decode cX7_linksOf 23 = .ok (.iload_n 3, 1) := by decide +kernel
theorem dX7_linksOf_24 : decode cX7_linksOf 24 = .ok (.baload, 1) := by decide +kernel
theorem dX7_linksOf_25 : decode cX7_linksOf 25 = .ok (.ifCond .eq 7, 3) := by decide +kernel
theorem dX7_linksOf_28 : decode cX7_linksOf 28 = .ok (.iconst 1, 1) := by decide +kernel
theorem dX7_linksOf_29 : decode cX7_linksOf 29 = .ok (.goto 4, 3) := by decide +kernel
theorem dX7_linksOf_32 : decode cX7_linksOf 32 = .ok (.iconst 0, 1) := by decide +kernel
theorem dX7_linksOf_33 : decode cX7_linksOf 33 = .ok (.iadd, 1) := by decide +kernel
theorem dX7_linksOf_34 : decode cX7_linksOf 34 = .ok (.istore_n 2, 1) := by decide +kernel
theorem dX7_linksOf_35 : decode cX7_linksOf 35 = .ok (.iinc 3 1, 3) := by decide +kernel
theorem dX7_linksOf_38 : decode cX7_linksOf 38 = .ok (.goto (-31), 3) := by decide +kernel
theorem dX7_linksOf_41 : decode cX7_linksOf 41 = .ok (.iload_n 2, 1) := by decide +kernel
theorem dX7_linksOf_42 : decode cX7_linksOf 42 = .ok (.ireturn, 1) := by decide +kernel
set_option maxRecDepth 20000 in
theorem ggX7_clear_X7_isMap : GoodIn wsX7_clear wsX7_isMap := goodIn_r _ [6] (by decide +kernel) (by decide +kernel)
set_option maxRecDepth 20000 in
theorem gX7_clear_X7_isMap : GoodIn wsX7_clear (va_wsS RX7 42 yX7_isMap wsX7_isMap) := goodIn_app (goodIn_of _ (by decide +kernel)) ggX7_clear_X7_isMap
set_option maxRecDepth 20000 in
theorem ggX7_clear_X7_asks : GoodIn wsX7_clear wsX7_asks := goodIn_r _ [10, 11, 16, 17, 18, 19, 20, 21, 22, 23, 24, 25, 26, 27] (by decide +kernel) (by decide +kernel)
set_option maxRecDepth 20000 in
theorem gX7_clear_X7_asks : GoodIn wsX7_clear (wsV RX7 49 RX7 yX7_asks wsX7_asks) := goodIn_app (goodIn_of _ (by decide +kernel)) ggX7_clear_X7_asks
set_option maxRecDepth 20000 in
theorem ggX7_clear_X7_linksOf : GoodIn wsX7_clear wsX7_linksOf := goodIn_r _ [15, 2, 16, 17, 18, 19, 20, 21, 22, 23, 24, 25, 26, 27] (by decide +kernel) (by decide +kernel)
set_option maxRecDepth 20000 in
theorem gX7_clear_X7_linksOf : GoodIn wsX7_clear (wsV RX7 72 RX7 yX7_linksOf wsX7_linksOf) := goodIn_app (goodIn_of _ (by decide +kernel)) ggX7_clear_X7_linksOf
theorem dX7_clear_0 : decode cX7_clear 0 = .ok (.aload_n 0, 1) := by decide +kernel
theorem dX7_clear_1 : decode cX7_clear 1 = .ok (.iload_n 1, 1) := by decide +kernel
theorem dX7_clear_2 : decode cX7_clear 2 = .ok (.invokestatic 42, 3) := by decide +kernel
theorem dX7_clear_5 : decode cX7_clear 5 = .ok (.invokevirtual 49, 3) := by decide +kernel
theorem dX7_clear_8 : decode cX7_clear 8 = .ok (.ifCond .ne 5, 3) := by decide +kernel
theorem dX7_clear_11 : decode cX7_clear 11 = .ok (.iconst 0, 1) := by decide +kernel
theorem dX7_clear_12 : decode cX7_clear 12 = .ok (.ireturn, 1) := by decide +kernel
theorem dX7_clear_13 : decode cX7_clear 13 = .ok (.aload_n 0, 1) := by decide +kernel
theorem dX7_clear_14 : decode cX7_clear 14 = .ok (.getfield 7, 3) := by decide +kernel
theorem dX7_clear_17 : decode cX7_clear 17 = .ok (.iload_n 1, 1) := by decide +kernel
theorem dX7_clear_18 : decode cX7_clear 18 = .ok (.iaload, 1) := by decide +kernel
theorem dX7_clear_19 : decode cX7_clear 19 = .ok (.aload_n 0, 1) := by decide +kernel
theorem dX7_clear_20 : decode cX7_clear 20 = .ok (.iload_n 1, 1) := by decide +kernel
theorem dX7_clear_21 : decode cX7_clear 21 = .ok (.invokevirtual 72, 3) := by decide +kernel
theorem dX7_clear_24 : decode cX7_clear 24 = .ok (.iadd, 1) := by decide +kernel
theorem dX7_clear_25 : decode cX7_clear 25 = .ok (.istore_n 2, 1) := by decide +kernel
theorem dX7_clear_26 : decode cX7_clear 26 = .ok (.aload_n 0, 1) := by decide +kernel
theorem dX7_clear_27 : decode cX7_clear 27 = .ok (.getfield 7, 3) := by decide +kernel
theorem dX7_clear_30 : decode cX7_clear 30 = .ok (.iload_n 1, 1) := by decide +kernel
theorem dX7_clear_31 : decode cX7_clear 31 = .ok (.iconst 0, 1) := by decide +kernel
theorem dX7_clear_32 : decode cX7_clear 32 = .ok (.iastore, 1) := by decide +kernel
theorem dX7_clear_33 : decode cX7_clear 33 = .ok (.bipush 100, 2) := by decide +kernel
theorem dX7_clear_35 : decode cX7_clear 35 = .ok (.iload_n 1, 1) := by decide +kernel
theorem dX7_clear_36 : decode cX7_clear 36 = .ok (.imul, 1) := by decide +kernel
theorem dX7_clear_37 : decode cX7_clear 37 = .ok (.istore_n 3, 1) := by decide +kernel
theorem dX7_clear_38 : decode cX7_clear 38 = .ok (.iload_n 3, 1) := by decide +kernel
theorem dX7_clear_39 : decode cX7_clear 39 = .ok (.bipush 100, 2) := by decide +kernel
theorem dX7_clear_41 : decode cX7_clear 41 = .ok (.iload_n 1, 1) := by decide +kernel
theorem dX7_clear_42 : decode cX7_clear 42 = .ok (.imul, 1) := by decide +kernel
theorem dX7_clear_43 : decode cX7_clear 43 = .ok (.bipush 100, 2) := by decide +kernel
theorem dX7_clear_45 : decode cX7_clear 45 = .ok (.iadd, 1) := by decide +kernel
theorem dX7_clear_46 : decode cX7_clear 46 = .ok (.if_icmp .ge 16, 3) := by decide +kernel
theorem dX7_clear_49 : decode cX7_clear 49 = .ok (.aload_n 0, 1) := by decide +kernel
theorem dX7_clear_50 : decode cX7_clear 50 = .ok (.getfield 16, 3) := by decide +kernel
theorem dX7_clear_53 : decode cX7_clear 53 = .ok (.iload_n 3, 1) := by decide +kernel
theorem dX7_clear_54 : decode cX7_clear 54 = .ok (.iconst 0, 1) := by decide +kernel
theorem dX7_clear_55 : decode cX7_clear 55 = .ok (.bastore, 1) := by decide +kernel
theorem dX7_clear_56 : decode cX7_clear 56 = .ok (.iinc 3 1, 3) := by decide +kernel
theorem dX7_clear_59 : decode cX7_clear 59 = .ok (.goto (-21), 3) := by decide +kernel
theorem dX7_clear_62 : decode cX7_clear 62 = .ok (.iload_n 2, 1) := by decide +kernel
theorem dX7_clear_63 : decode cX7_clear 63 = .ok (.ireturn, 1) := by decide +kernel
set_option maxRecDepth 20000 in
theorem ggX7_synonyms_X7_isWord : GoodIn wsX7_synonyms wsX7_isWord := goodIn_r _ [5] (by decide +kernel) (by decide +kernel)
set_option maxRecDepth 20000 in
theorem gX7_synonyms_X7_isWord : GoodIn wsX7_synonyms (va_wsS RX7 46 yX7_isWord wsX7_isWord) := goodIn_app (goodIn_of _ (by decide +kernel)) ggX7_synonyms_X7_isWord
set_option maxRecDepth 20000 in
theorem ggX7_synonyms_X7_asks : GoodIn wsX7_synonyms wsX7_asks := goodIn_r _ [9, 10, 11, 12, 13, 14, 15, 16, 17, 18, 19, 20, 21, 22] (by decide +kernel) (by decide +kernel)
set_option maxRecDepth 20000 in
theorem gX7_synonyms_X7_asks : GoodIn wsX7_synonyms (wsV RX7 49 RX7 yX7_asks wsX7_asks) := goodIn_app (goodIn_of _ (by decide +kernel)) ggX7_synonyms_X7_asks
theorem dX7_synonyms_0 : decode cX7_synonyms 0 = .ok (.aload_n 0, 1) := by decide +kernel
theorem dX7_synonyms_1 : decode cX7_synonyms 1 = .ok (.iload_n 1, 1) := by decide +kernel
theorem dX7_synonyms_2 : decode cX7_synonyms 2 = .ok (.invokestatic 46, 3) := by decide +kernel
theorem dX7_synonyms_5 : decode cX7_synonyms 5 = .ok (.ifCond .eq 14, 3) := by decide +kernel
theorem dX7_synonyms_8 : decode cX7_synonyms 8 = .ok (.iload_n 2, 1) := by decide +kernel
theorem dX7_synonyms_9 : decode cX7_synonyms 9 = .ok (.invokestatic 46, 3) := by decide +kernel
theorem dX7_synonyms_12 : decode cX7_synonyms 12 = .ok (.ifCond .eq 7, 3) := by decide +kernel
theorem dX7_synonyms_15 : decode cX7_synonyms 15 = .ok (.iconst 1, 1) := by decide +kernel
theorem dX7_synonyms_16 : decode cX7_synonyms 16 = .ok (.goto 4, 3) := by decide +kernel
theorem dX7_synonyms_19 : decode cX7_synonyms 19 = .ok (.iconst 0, 1) := by decide +kernel
theorem dX7_synonyms_20 : decode cX7_synonyms 20 = .ok (.invokevirtual 49, 3) := by decide +kernel
theorem dX7_synonyms_23 : decode cX7_synonyms 23 = .ok (.ifCond .ne 5, 3) := by decide +kernel
theorem dX7_synonyms_26 : decode cX7_synonyms 26 = .ok (.iconst 0, 1) := by decide +kernel
theorem dX7_synonyms_27 : decode cX7_synonyms 27 = .ok (.ireturn, 1) := by decide +kernel
theorem dX7_synonyms_28 : decode cX7_synonyms 28 = .ok (.aload_n 0, 1) := by decide +kernel
theorem dX7_synonyms_29 : decode cX7_synonyms 29 = .ok (.getfield 23, 3) := by decide +kernel
theorem dX7_synonyms_32 : decode cX7_synonyms 32 = .ok (.iload_n 1, 1) := by decide +kernel
theorem dX7_synonyms_33 : decode cX7_synonyms 33 = .ok (.iaload, 1) := by decide +kernel
theorem dX7_synonyms_34 : decode cX7_synonyms 34 = .ok (.istore_n 3, 1) := by decide +kernel
theorem dX7_synonyms_35 : decode cX7_synonyms 35 = .ok (.aload_n 0, 1) := by decide +kernel
theorem dX7_synonyms_36 : decode cX7_synonyms 36 = .ok (.getfield 23, 3) := by decide +kernel
theorem dX7_synonyms_39 : decode cX7_synonyms 39 = .ok (.iload_n 2, 1) := by decide +kernel
theorem dX7_synonyms_40 : decode cX7_synonyms 40 = .ok (.iaload, 1) := by decide +kernel
theorem dX7_synonyms_41 : decode cX7_synonyms 41 = .ok (.istore 4, 2) := by decide +kernel
theorem dX7_synonyms_43 : decode cX7_synonyms 43 = .ok (.iconst 0, 1) := by decide +kernel
theorem dX7_synonyms_44 : decode cX7_synonyms 44 = .ok (.istore 5, 2) := by decide +kernel
theorem dX7_synonyms_46 : decode cX7_synonyms 46 = .ok (.iload 5, 2) := by decide +kernel
theorem dX7_synonyms_48 : decode cX7_synonyms 48 = .ok (.bipush 32, 2) := by decide +kernel
theorem dX7_synonyms_50 : decode cX7_synonyms 50 = .ok (.if_icmp .ge 39, 3) := by decide +kernel
theorem dX7_synonyms_53 : decode cX7_synonyms 53 = .ok (.aload_n 0, 1) := by decide +kernel
theorem dX7_synonyms_54 : decode cX7_synonyms 54 = .ok (.getfield 23, 3) := by decide +kernel
theorem dX7_synonyms_57 : decode cX7_synonyms 57 = .ok (.iload 5, 2) := by decide +kernel
theorem dX7_synonyms_59 : decode cX7_synonyms 59 = .ok (.aload_n 0, 1) := by decide +kernel
theorem dX7_synonyms_60 : decode cX7_synonyms 60 = .ok (.getfield 23, 3) := by decide +kernel
theorem dX7_synonyms_63 : decode cX7_synonyms 63 = .ok (.iload 5, 2) := by decide +kernel
theorem dX7_synonyms_65 : decode cX7_synonyms 65 = .ok (.iaload, 1) := by decide +kernel
theorem dX7_synonyms_66 : decode cX7_synonyms 66 = .ok (.iload 4, 2) := by decide +kernel
theorem dX7_synonyms_68 : decode cX7_synonyms 68 = .ok (.if_icmp .ne 7, 3) := by decide +kernel
theorem dX7_synonyms_71 : decode cX7_synonyms 71 = .ok (.iload_n 3, 1) := by decide +kernel
theorem dX7_synonyms_72 : decode cX7_synonyms 72 = .ok (.goto 10, 3) := by decide +kernel
theorem dX7_synonyms_75 : decode cX7_synonyms 75 = .ok (.aload_n 0, 1) := by decide +kernel
theorem dX7_synonyms_76 : decode cX7_synonyms 76 = .ok (.getfield 23, 3) := by decide +kernel
theorem dX7_synonyms_79 : decode cX7_synonyms 79 = .ok (.iload 5, 2) := by decide +kernel
theorem dX7_synonyms_81 : decode cX7_synonyms 81 = .ok (.iaload, 1) := by decide +kernel
theorem dX7_synonyms_82 : decode cX7_synonyms 82 = .ok (.iastore, 1) := by decide +kernel
theorem dX7_synonyms_83 : decode cX7_synonyms 83 = .ok (.iinc 5 1, 3) := by decide +kernel
theorem dX7_synonyms_86 : decode cX7_synonyms 86 = .ok (.goto (-40), 3) := by decide +kernel
theorem dX7_synonyms_89 : decode cX7_synonyms 89 = .ok (.iload_n 3, 1) := by decide +kernel
theorem dX7_synonyms_90 : decode cX7_synonyms 90 = .ok (.iload 4, 2) := by decide +kernel
theorem dX7_synonyms_92 : decode cX7_synonyms 92 = .ok (.if_icmp .ne 7, 3) := by decide +kernel
theorem dX7_synonyms_95 : decode cX7_synonyms 95 = .ok (.iconst 1, 1) := by decide +kernel
theorem dX7_synonyms_96 : decode cX7_synonyms 96 = .ok (.goto 4, 3) := by decide +kernel
theorem dX7_synonyms_99 : decode cX7_synonyms 99 = .ok (.iconst 0, 1) := by decide +kernel
theorem dX7_synonyms_100 : decode cX7_synonyms 100 = .ok (.ireturn, 1) := by decide +kernel
set_option maxRecDepth 20000 in
theorem ggX7_chain_X7_isKind : GoodIn wsX7_chain wsX7_isKind := goodIn_r _ [5] (by decide +kernel) (by decide +kernel)
set_option maxRecDepth 20000 in
theorem gX7_chain_X7_isKind : GoodIn wsX7_chain (va_wsS RX7 61 yX7_isKind wsX7_isKind) := goodIn_app (goodIn_of _ (by decide +kernel)) ggX7_chain_X7_isKind
set_option maxRecDepth 20000 in
theorem ggX7_chain_X7_asks : GoodIn wsX7_chain wsX7_asks := goodIn_r _ [9, 10, 11, 12, 13, 14, 15, 16, 17, 18, 19, 20, 21, 22] (by decide +kernel) (by decide +kernel)
set_option maxRecDepth 20000 in
theorem gX7_chain_X7_asks : GoodIn wsX7_chain (wsV RX7 49 RX7 yX7_asks wsX7_asks) := goodIn_app (goodIn_of _ (by decide +kernel)) ggX7_chain_X7_asks
theorem dX7_chain_0 : decode cX7_chain 0 = .ok (.aload_n 0, 1) := by decide +kernel
theorem dX7_chain_1 : decode cX7_chain 1 = .ok (.iload_n 1, 1) := by decide +kernel
theorem dX7_chain_2 : decode cX7_chain 2 = .ok (.invokestatic 61, 3) := by decide +kernel
theorem dX7_chain_5 : decode cX7_chain 5 = .ok (.ifCond .eq 26, 3) := by decide +kernel
theorem dX7_chain_8 : decode cX7_chain 8 = .ok (.iload_n 2, 1) := by decide +kernel
theorem dX7_chain_9 : decode cX7_chain 9 = .ok (.invokestatic 61, 3) := by decide +kernel
theorem dX7_chain_12 : decode cX7_chain 12 = .ok (.ifCond .eq 19, 3) := by decide +kernel
theorem dX7_chain_15 : decode cX7_chain 15 = .ok (.iload_n 3, 1) := by decide +kernel
theorem dX7_chain_16 : decode cX7_chain 16 = .ok (.iconst (-1), 1) := by decide +kernel
theorem dX7_chain_17 : decode cX7_chain 17 = .ok (.if_icmp .eq 10, 3) := by decide +kernel
theorem dX7_chain_20 : decode cX7_chain 20 = .ok (.iload_n 3, 1) := by decide +kernel
theorem dX7_chain_21 : decode cX7_chain 21 = .ok (.invokestatic 61, 3) := by decide +kernel
theorem dX7_chain_24 : decode cX7_chain 24 = .ok (.ifCond .eq 7, 3) := by decide +kernel
theorem dX7_chain_27 : decode cX7_chain 27 = .ok (.iconst 1, 1) := by decide +kernel
theorem dX7_chain_28 : decode cX7_chain 28 = .ok (.goto 4, 3) := by decide +kernel
theorem dX7_chain_31 : decode cX7_chain 31 = .ok (.iconst 0, 1) := by decide +kernel
theorem dX7_chain_32 : decode cX7_chain 32 = .ok (.invokevirtual 49, 3) := by decide +kernel
theorem dX7_chain_35 : decode cX7_chain 35 = .ok (.ifCond .ne 5, 3) := by decide +kernel
theorem dX7_chain_38 : decode cX7_chain 38 = .ok (.iconst 0, 1) := by decide +kernel
theorem dX7_chain_39 : decode cX7_chain 39 = .ok (.ireturn, 1) := by decide +kernel
theorem dX7_chain_40 : decode cX7_chain 40 = .ok (.aload_n 0, 1) := by decide +kernel
theorem dX7_chain_41 : decode cX7_chain 41 = .ok (.getfield 26, 3) := by decide +kernel
theorem dX7_chain_44 : decode cX7_chain 44 = .ok (.iconst 4, 1) := by decide +kernel
theorem dX7_chain_45 : decode cX7_chain 45 = .ok (.iload_n 1, 1) := by decide +kernel
theorem dX7_chain_46 : decode cX7_chain 46 = .ok (.imul, 1) := by decide +kernel
theorem dX7_chain_47 : decode cX7_chain 47 = .ok (.iload_n 2, 1) := by decide +kernel
theorem dX7_chain_48 : decode cX7_chain 48 = .ok (.iadd, 1) := by decide +kernel
theorem dX7_chain_49 : decode cX7_chain 49 = .ok (.iaload, 1) := by decide +kernel
theorem dX7_chain_50 : decode cX7_chain 50 = .ok (.istore 4, 2) := by decide +kernel
theorem dX7_chain_52 : decode cX7_chain 52 = .ok (.aload_n 0, 1) := by decide +kernel
theorem dX7_chain_53 : decode cX7_chain 53 = .ok (.getfield 26, 3) := by decide +kernel
theorem dX7_chain_56 : decode cX7_chain 56 = .ok (.iconst 4, 1) := by decide +kernel
theorem dX7_chain_57 : decode cX7_chain 57 = .ok (.iload_n 1, 1) := by decide +kernel
theorem dX7_chain_58 : decode cX7_chain 58 = .ok (.imul, 1) := by decide +kernel
theorem dX7_chain_59 : decode cX7_chain 59 = .ok (.iload_n 2, 1) := by decide +kernel
theorem dX7_chain_60 : decode cX7_chain 60 = .ok (.iadd, 1) := by decide +kernel
theorem dX7_chain_61 : decode cX7_chain 61 = .ok (.iload_n 3, 1) := by decide +kernel
theorem dX7_chain_62 : decode cX7_chain 62 = .ok (.iastore, 1) := by decide +kernel
theorem dX7_chain_63 : decode cX7_chain 63 = .ok (.iload 4, 2) := by decide +kernel
theorem dX7_chain_65 : decode cX7_chain 65 = .ok (.ireturn, 1) := by decide +kernel
set_option maxRecDepth 20000 in
theorem ggX7_ideas_X7_isMap : GoodIn wsX7_ideas wsX7_isMap := goodIn_r _ [5] (by decide +kernel) (by decide +kernel)
set_option maxRecDepth 20000 in
theorem gX7_ideas_X7_isMap : GoodIn wsX7_ideas (va_wsS RX7 42 yX7_isMap wsX7_isMap) := goodIn_app (goodIn_of _ (by decide +kernel)) ggX7_ideas_X7_isMap
set_option maxRecDepth 20000 in
theorem ggX7_ideas_X7_asks : GoodIn wsX7_ideas wsX7_asks := goodIn_r _ [9, 10, 11, 12, 13, 14, 15, 16, 17, 18, 19, 20, 21, 22] (by decide +kernel) (by decide +kernel)
set_option maxRecDepth 20000 in
theorem gX7_ideas_X7_asks : GoodIn wsX7_ideas (wsV RX7 49 RX7 yX7_asks wsX7_asks) := goodIn_app (goodIn_of _ (by decide +kernel)) ggX7_ideas_X7_asks
theorem dX7_ideas_0 : decode cX7_ideas 0 = .ok (.aload_n 0, 1) := by decide +kernel
theorem dX7_ideas_1 : decode cX7_ideas 1 = .ok (.iload_n 1, 1) := by decide +kernel
theorem dX7_ideas_2 : decode cX7_ideas 2 = .ok (.invokestatic 42, 3) := by decide +kernel
theorem dX7_ideas_5 : decode cX7_ideas 5 = .ok (.invokevirtual 49, 3) := by decide +kernel
theorem dX7_ideas_8 : decode cX7_ideas 8 = .ok (.ifCond .eq 12, 3) := by decide +kernel
theorem dX7_ideas_11 : decode cX7_ideas 11 = .ok (.aload_n 0, 1) := by decide +kernel
theorem dX7_ideas_12 : decode cX7_ideas 12 = .ok (.getfield 7, 3) := by decide +kernel
theorem dX7_ideas_15 : decode cX7_ideas 15 = .ok (.iload_n 1, 1) := by decide +kernel
theorem dX7_ideas_16 : decode cX7_ideas 16 = .ok (.iaload, 1) := by decide +kernel
theorem dX7_ideas_17 : decode cX7_ideas 17 = .ok (.goto 4, 3) := by decide +kernel
theorem dX7_ideas_20 : decode cX7_ideas 20 = .ok (.iconst 0, 1) := by decide +kernel
theorem dX7_ideas_21 : decode cX7_ideas 21 = .ok (.ireturn, 1) := by decide +kernel
set_option maxRecDepth 20000 in
theorem ggX7_links_X7_isMap : GoodIn wsX7_links wsX7_isMap := goodIn_r _ [4] (by decide +kernel) (by decide +kernel)
set_option maxRecDepth 20000 in
theorem gX7_links_X7_isMap : GoodIn wsX7_links (va_wsS RX7 42 yX7_isMap wsX7_isMap) := goodIn_app (goodIn_of _ (by decide +kernel)) ggX7_links_X7_isMap
set_option maxRecDepth 20000 in
theorem ggX7_links_X7_asks : GoodIn wsX7_links wsX7_asks := goodIn_r _ [8, 9, 15, 16, 17, 18, 19, 20, 21, 22, 23, 24, 25, 26] (by decide +kernel) (by decide +kernel)
set_option maxRecDepth 20000 in
theorem gX7_links_X7_asks : GoodIn wsX7_links (wsV RX7 49 RX7 yX7_asks wsX7_asks) := goodIn_app (goodIn_of _ (by decide +kernel)) ggX7_links_X7_asks
set_option maxRecDepth 20000 in
theorem ggX7_links_X7_linksOf : GoodIn wsX7_links wsX7_linksOf := goodIn_r _ [13, 14, 15, 16, 17, 18, 19, 20, 21, 22, 23, 24, 25, 26] (by decide +kernel) (by decide +kernel)
set_option maxRecDepth 20000 in
theorem gX7_links_X7_linksOf : GoodIn wsX7_links (wsV RX7 72 RX7 yX7_linksOf wsX7_linksOf) := goodIn_app (goodIn_of _ (by decide +kernel)) ggX7_links_X7_linksOf
theorem dX7_links_0 : decode cX7_links 0 = .ok (.aload_n 0, 1) := by decide +kernel
theorem dX7_links_1 : decode cX7_links 1 = .ok (.iload_n 1, 1) := by decide +kernel
theorem dX7_links_2 : decode cX7_links 2 = .ok (.invokestatic 42, 3) := by decide +kernel
theorem dX7_links_5 : decode cX7_links 5 = .ok (.invokevirtual 49, 3) := by decide +kernel
theorem dX7_links_8 : decode cX7_links 8 = .ok (.ifCond .eq 11, 3) := by decide +kernel
theorem dX7_links_11 : decode cX7_links 11 = .ok (.aload_n 0, 1) := by decide +kernel
theorem dX7_links_12 : decode cX7_links 12 = .ok (.iload_n 1, 1) := by decide +kernel
theorem dX7_links_13 : decode cX7_links 13 = .ok (.invokevirtual 72, 3) := by decide +kernel
theorem dX7_links_16 : decode cX7_links 16 = .ok (.goto 4, 3) := by decide +kernel
theorem dX7_links_19 : decode cX7_links 19 = .ok (.iconst 0, 1) := by decide +kernel
theorem dX7_links_20 : decode cX7_links 20 = .ok (.ireturn, 1) := by decide +kernel
set_option maxRecDepth 20000 in
theorem ggX7_implies_X7_at : GoodIn wsX7_implies wsX7_at := goodIn_r _ [6] (by decide +kernel) (by decide +kernel)
set_option maxRecDepth 20000 in
theorem gX7_implies_X7_at : GoodIn wsX7_implies (va_wsS RX7 68 yX7_at wsX7_at) := goodIn_app (goodIn_of _ (by decide +kernel)) ggX7_implies_X7_at
theorem dX7_implies_0 : decode cX7_implies 0 = .ok (.iconst 0, 1) := by decide +kernel
theorem dX7_implies_1 : decode cX7_implies 1 = .ok (.istore 5, 2) := by decide +kernel
theorem dX7_implies_3 : decode cX7_implies 3 = .ok (.iconst 0, 1) := by decide +kernel
theorem dX7_implies_4 : decode cX7_implies 4 = .ok (.istore 6, 2) := by decide +kernel
theorem dX7_implies_6 : decode cX7_implies 6 = .ok (.iload 6, 2) := by decide +kernel
theorem dX7_implies_8 : decode cX7_implies 8 = .ok (.bipush 16, 2) := by decide +kernel
theorem dX7_implies_10 : decode cX7_implies 10 = .ok (.if_icmp .ge 128, 3) := by decide +kernel
theorem dX7_implies_13 : decode cX7_implies 13 = .ok (.aload_n 0, 1) := by decide +kernel
theorem dX7_implies_14 : decode cX7_implies 14 = .ok (.getfield 26, 3) := by decide +kernel
theorem dX7_implies_17 : decode cX7_implies 17 = .ok (.iload 6, 2) := by decide +kernel
theorem dX7_implies_19 : decode cX7_implies 19 = .ok (.iaload, 1) := by decide +kernel
theorem dX7_implies_20 : decode cX7_implies 20 = .ok (.iconst (-1), 1) := by decide +kernel
theorem dX7_implies_21 : decode cX7_implies 21 = .ok (.if_icmp .eq 66, 3) := by decide +kernel
theorem dX7_implies_24 : decode cX7_implies 24 = .ok (.aload_n 0, 1) := by decide +kernel
theorem dX7_implies_25 : decode cX7_implies 25 = .ok (.getfield 20, 3) := by decide +kernel
theorem dX7_implies_28 : decode cX7_implies 28 = .ok (.iload_n 1, 1) := by decide +kernel
theorem dX7_implies_29 : decode cX7_implies 29 = .ok (.iload_n 2, 1) := by decide +kernel
theorem dX7_implies_30 : decode cX7_implies 30 = .ok (.iload_n 3, 1) := by decide +kernel
theorem dX7_implies_31 : decode cX7_implies 31 = .ok (.iload 6, 2) := by decide +kernel
theorem dX7_implies_33 : decode cX7_implies 33 = .ok (.iconst 4, 1) := by decide +kernel
theorem dX7_implies_34 : decode cX7_implies 34 = .ok (.idiv, 1) := by decide +kernel
theorem dX7_implies_35 : decode cX7_implies 35 = .ok (.invokestatic 68, 3) := by decide +kernel
theorem dX7_implies_38 : decode cX7_implies 38 = .ok (.baload, 1) := by decide +kernel
theorem dX7_implies_39 : decode cX7_implies 39 = .ok (.ifCond .eq 48, 3) := by decide +kernel
theorem dX7_implies_42 : decode cX7_implies 42 = .ok (.aload_n 0, 1) := by decide +kernel
theorem dX7_implies_43 : decode cX7_implies 43 = .ok (.getfield 20, 3) := by decide +kernel
theorem dX7_implies_46 : decode cX7_implies 46 = .ok (.iload_n 1, 1) := by decide +kernel
theorem dX7_implies_47 : decode cX7_implies 47 = .ok (.iload_n 3, 1) := by decide +kernel
theorem dX7_implies_48 : decode cX7_implies 48 = .ok (.iload 4, 2) := by decide +kernel
theorem dX7_implies_50 : decode cX7_implies 50 = .ok (.iload 6, 2) := by decide +kernel
theorem dX7_implies_52 : decode cX7_implies 52 = .ok (.iconst 4, 1) := by decide +kernel
theorem dX7_implies_53 : decode cX7_implies 53 = .ok (.irem, 1) := by decide +kernel
theorem dX7_implies_54 : decode cX7_implies 54 = .ok (.invokestatic 68, 3) := by decide +kernel
theorem dX7_implies_57 : decode cX7_implies 57 = .ok (.baload, 1) := by decide +kernel
theorem dX7_implies_58 : decode cX7_implies 58 = .ok (.ifCond .eq 29, 3) := by decide +kernel
theorem dX7_implies_61 : decode cX7_implies 61 = .ok (.aload_n 0, 1) := by decide +kernel
theorem dX7_implies_62 : decode cX7_implies 62 = .ok (.getfield 20, 3) := by decide +kernel
theorem dX7_implies_65 : decode cX7_implies 65 = .ok (.iload_n 1, 1) := by decide +kernel
theorem dX7_implies_66 : decode cX7_implies 66 = .ok (.iload_n 2, 1) := by decide +kernel
theorem dX7_implies_67 : decode cX7_implies 67 = .ok (.iload 4, 2) := by decide +kernel
theorem dX7_implies_69 : decode cX7_implies 69 = .ok (.aload_n 0, 1) := by decide +kernel
theorem dX7_implies_70 : decode cX7_implies 70 = .ok (.getfield 26, 3) := by decide +kernel
theorem dX7_implies_73 : decode cX7_implies 73 = .ok (.iload 6, 2) := by decide +kernel
theorem dX7_implies_75 : decode cX7_implies 75 = .ok (.iaload, 1) := by decide +kernel
theorem dX7_implies_76 : decode cX7_implies 76 = .ok (.invokestatic 68, 3) := by decide +kernel
theorem dX7_implies_79 : decode cX7_implies 79 = .ok (.baload, 1) := by decide +kernel
theorem dX7_implies_80 : decode cX7_implies 80 = .ok (.ifCond .ne 7, 3) := by decide +kernel
theorem dX7_implies_83 : decode cX7_implies 83 = .ok (.iconst 1, 1) := by decide +kernel
theorem dX7_implies_84 : decode cX7_implies 84 = .ok (.goto 4, 3) := by decide +kernel
theorem dX7_implies_87 : decode cX7_implies 87 = .ok (.iconst 0, 1) := by decide +kernel
theorem dX7_implies_88 : decode cX7_implies 88 = .ok (.istore 7, 2) := by decide +kernel
theorem dX7_implies_90 : decode cX7_implies 90 = .ok (.iload 7, 2) := by decide +kernel
theorem dX7_implies_92 : decode cX7_implies 92 = .ok (.ifCond .eq 23, 3) := by decide +kernel
theorem dX7_implies_95 : decode cX7_implies 95 = .ok (.aload_n 0, 1) := by decide +kernel
theorem dX7_implies_96 : decode cX7_implies 96 = .ok (.getfield 20, 3) := by decide +kernel
theorem dX7_implies_99 : decode cX7_implies 99 = .ok (.iload_n 1, 1) := by decide +kernel
theorem dX7_implies_100 : decode cX7_implies 100 = .ok (.iload_n 2, 1) := by decide +kernel
theorem dX7_implies_101 : decode cX7_implies 101 = .ok (.iload 4, 2) := by decide +kernel
theorem dX7_implies_103 : decode cX7_implies 103 = .ok (.aload_n 0, 1) := by decide +kernel
theorem dX7_implies_104 : decode cX7_implies 104 = .ok (.getfield 26, 3) := by decide +kernel
theorem dX7_implies_107 : decode cX7_implies 107 = .ok (.iload 6, 2) := by decide +kernel
theorem dX7_implies_109 : decode cX7_implies 109 = .ok (.iaload, 1) := by decide +kernel
theorem dX7_implies_110 : decode cX7_implies 110 = .ok (.invokestatic 68, 3) := by decide +kernel
theorem dX7_implies_113 : decode cX7_implies 113 = .ok (.iconst 1, 1) := by decide +kernel
theorem dX7_implies_114 : decode cX7_implies 114 = .ok (.bastore, 1) := by decide +kernel
theorem dX7_implies_115 : decode cX7_implies 115 = .ok (.iload 5, 2) := by decide +kernel
theorem dX7_implies_117 : decode cX7_implies 117 = .ok (.ifCond .ne 8, 3) := by decide +kernel
theorem dX7_implies_120 : decode cX7_implies 120 = .ok (.iload 7, 2) := by decide +kernel
theorem dX7_implies_122 : decode cX7_implies 122 = .ok (.ifCond .eq 7, 3) := by decide +kernel
theorem dX7_implies_125 : decode cX7_implies 125 = .ok (.iconst 1, 1) := by decide +kernel
theorem dX7_implies_126 : decode cX7_implies 126 = .ok (.goto 4, 3) := by decide +kernel
theorem dX7_implies_129 : decode cX7_implies 129 = .ok (.iconst 0, 1) := by decide +kernel
theorem dX7_implies_130 : decode cX7_implies 130 = .ok (.istore 5, 2) := by decide +kernel
theorem dX7_implies_132 : decode cX7_implies 132 = .ok (.iinc 6 1, 3) := by decide +kernel
theorem dX7_implies_135 : decode cX7_implies 135 = .ok (.goto (-129), 3) := by decide +kernel
theorem dX7_implies_138 : decode cX7_implies 138 = .ok (.iload 5, 2) := by decide +kernel
theorem dX7_implies_140 : decode cX7_implies 140 = .ok (.ireturn, 1) := by decide +kernel
set_option maxRecDepth 20000 in
theorem ggX7_closes_X7_implies : GoodIn wsX7_closes wsX7_implies := goodIn_r _ [7, 8, 1, 9, 10, 6, 11, 12, 13, 14, 15, 16, 17, 18, 19, 20, 21, 22, 23] (by decide +kernel) (by decide +kernel)
set_option maxRecDepth 20000 in
theorem gX7_closes_X7_implies : GoodIn wsX7_closes (wsV RX7 75 RX7 yX7_implies wsX7_implies) := goodIn_app (goodIn_of _ (by decide +kernel)) ggX7_closes_X7_implies
theorem dX7_closes_0 : decode cX7_closes 0 = .ok (.bipush 100, 2) := by decide +kernel
theorem dX7_closes_2 : decode cX7_closes 2 = .ok (.iload_n 1, 1) := by decide +kernel
theorem dX7_closes_3 : decode cX7_closes 3 = .ok (.imul, 1) := by decide +kernel
theorem dX7_closes_4 : decode cX7_closes 4 = .ok (.istore_n 2, 1) := by decide +kernel
theorem dX7_closes_5 : decode cX7_closes 5 = .ok (.iload_n 2, 1) := by decide +kernel
theorem dX7_closes_6 : decode cX7_closes 6 = .ok (.bipush 100, 2) := by decide +kernel
theorem dX7_closes_8 : decode cX7_closes 8 = .ok (.iload_n 1, 1) := by decide +kernel
theorem dX7_closes_9 : decode cX7_closes 9 = .ok (.imul, 1) := by decide +kernel
theorem dX7_closes_10 : decode cX7_closes 10 = .ok (.bipush 100, 2) := by decide +kernel
theorem dX7_closes_12 : decode cX7_closes 12 = .ok (.iadd, 1) := by decide +kernel
theorem dX7_closes_13 : decode cX7_closes 13 = .ok (.if_icmp .ge 21, 3) := by decide +kernel
theorem dX7_closes_16 : decode cX7_closes 16 = .ok (.aload_n 0, 1) := by decide +kernel
theorem dX7_closes_17 : decode cX7_closes 17 = .ok (.getfield 20, 3) := by decide +kernel
theorem dX7_closes_20 : decode cX7_closes 20 = .ok (.iload_n 2, 1) := by decide +kernel
theorem dX7_closes_21 : decode cX7_closes 21 = .ok (.aload_n 0, 1) := by decide +kernel
theorem dX7_closes_22 : decode cX7_closes 22 = .ok (.getfield 16, 3) := by decide +kernel
theorem dX7_closes_25 : decode cX7_closes 25 = .ok (.iload_n 2, 1) := by decide +kernel
theorem dX7_closes_26 : decode cX7_closes 26 = .ok (.baload, 1) := by decide +kernel
theorem dX7_closes_27 : decode cX7_closes 27 = .ok (.bastore, 1) := by decide +kernel
theorem dX7_closes_28 : decode cX7_closes 28 = .ok (.iinc 2 1, 3) := by decide +kernel
theorem dX7_closes_31 : decode cX7_closes 31 = .ok (.goto (-26), 3) := by decide +kernel
theorem dX7_closes_34 : decode cX7_closes 34 = .ok (.iconst 1, 1) := by decide +kernel
theorem dX7_closes_35 : decode cX7_closes 35 = .ok (.istore_n 2, 1) := by decide +kernel
theorem dX7_closes_36 : decode cX7_closes 36 = .ok (.iload_n 2, 1) := by decide +kernel
theorem dX7_closes_37 : decode cX7_closes 37 = .ok (.ifCond .eq 77, 3) := by decide +kernel
theorem dX7_closes_40 : decode cX7_closes 40 = .ok (.iconst 0, 1) := by decide +kernel
theorem dX7_closes_41 : decode cX7_closes 41 = .ok (.istore_n 2, 1) := by decide +kernel
theorem dX7_closes_42 : decode cX7_closes 42 = .ok (.iconst 0, 1) := by decide +kernel
theorem dX7_closes_43 : decode cX7_closes 43 = .ok (.istore_n 3, 1) := by decide +kernel
theorem dX7_closes_44 : decode cX7_closes 44 = .ok (.iload_n 3, 1) := by decide +kernel
theorem dX7_closes_45 : decode cX7_closes 45 = .ok (.bipush 125, 2) := by decide +kernel
theorem dX7_closes_47 : decode cX7_closes 47 = .ok (.if_icmp .ge 64, 3) := by decide +kernel
theorem dX7_closes_50 : decode cX7_closes 50 = .ok (.iload_n 3, 1) := by decide +kernel
theorem dX7_closes_51 : decode cX7_closes 51 = .ok (.bipush 25, 2) := by decide +kernel
theorem dX7_closes_53 : decode cX7_closes 53 = .ok (.idiv, 1) := by decide +kernel
theorem dX7_closes_54 : decode cX7_closes 54 = .ok (.istore 4, 2) := by decide +kernel
theorem dX7_closes_56 : decode cX7_closes 56 = .ok (.iload_n 3, 1) := by decide +kernel
theorem dX7_closes_57 : decode cX7_closes 57 = .ok (.iconst 5, 1) := by decide +kernel
theorem dX7_closes_58 : decode cX7_closes 58 = .ok (.idiv, 1) := by decide +kernel
theorem dX7_closes_59 : decode cX7_closes 59 = .ok (.iconst 5, 1) := by decide +kernel
theorem dX7_closes_60 : decode cX7_closes 60 = .ok (.irem, 1) := by decide +kernel
theorem dX7_closes_61 : decode cX7_closes 61 = .ok (.istore 5, 2) := by decide +kernel
theorem dX7_closes_63 : decode cX7_closes 63 = .ok (.iload_n 3, 1) := by decide +kernel
theorem dX7_closes_64 : decode cX7_closes 64 = .ok (.iconst 5, 1) := by decide +kernel
theorem dX7_closes_65 : decode cX7_closes 65 = .ok (.irem, 1) := by decide +kernel
theorem dX7_closes_66 : decode cX7_closes 66 = .ok (.istore 6, 2) := by decide +kernel
theorem dX7_closes_68 : decode cX7_closes 68 = .ok (.iload 4, 2) := by decide +kernel
theorem dX7_closes_70 : decode cX7_closes 70 = .ok (.iload 5, 2) := by decide +kernel
theorem dX7_closes_72 : decode cX7_closes 72 = .ok (.if_icmp .eq 33, 3) := by decide +kernel
theorem dX7_closes_75 : decode cX7_closes 75 = .ok (.iload 5, 2) := by decide +kernel
theorem dX7_closes_77 : decode cX7_closes 77 = .ok (.iload 6, 2) := by decide +kernel
theorem dX7_closes_79 : decode cX7_closes 79 = .ok (.if_icmp .eq 26, 3) := by decide +kernel
theorem dX7_closes_82 : decode cX7_closes 82 = .ok (.iload 6, 2) := by decide +kernel
theorem dX7_closes_84 : decode cX7_closes 84 = .ok (.iload 4, 2) := by decide +kernel
theorem dX7_closes_86 : decode cX7_closes 86 = .ok (.if_icmp .eq 19, 3) := by decide +kernel
theorem dX7_closes_89 : decode cX7_closes 89 = .ok (.aload_n 0, 1) := by decide +kernel
theorem dX7_closes_90 : decode cX7_closes 90 = .ok (.iload_n 1, 1) := by decide +kernel
theorem dX7_closes_91 : decode cX7_closes 91 = .ok (.iload 4, 2) := by decide +kernel
theorem dX7_closes_93 : decode cX7_closes 93 = .ok (.iload 5, 2) := by decide +kernel
theorem dX7_closes_95 : decode cX7_closes 95 = .ok (.iload 6, 2) := by decide +kernel
theorem dX7_closes_97 : decode cX7_closes 97 = .ok (.invokevirtual 75, 3) := by decide +kernel
theorem dX7_closes_100 : decode cX7_closes 100 = .ok (.ifCond .eq 5, 3) := by decide +kernel
theorem dX7_closes_103 : decode cX7_closes 103 = .ok (.iconst 1, 1) := by decide +kernel
theorem dX7_closes_104 : decode cX7_closes 104 = .ok (.istore_n 2, 1) := by decide +kernel
theorem dX7_closes_105 : decode cX7_closes 105 = .ok (.iinc 3 1, 3) := by decide +kernel
theorem dX7_closes_108 : decode cX7_closes 108 = .ok (.goto (-64), 3) := by decide +kernel
theorem dX7_closes_111 : decode cX7_closes 111 = .ok (.goto (-75), 3) := by decide +kernel
theorem dX7_closes_114 : decode cX7_closes 114 = .ok (.return_, 1) := by decide +kernel
set_option maxRecDepth 20000 in
theorem ggX7_held_X7_isMap : GoodIn wsX7_held wsX7_isMap := goodIn_r _ [5] (by decide +kernel) (by decide +kernel)
set_option maxRecDepth 20000 in
theorem gX7_held_X7_isMap : GoodIn wsX7_held (va_wsS RX7 42 yX7_isMap wsX7_isMap) := goodIn_app (goodIn_of _ (by decide +kernel)) ggX7_held_X7_isMap
set_option maxRecDepth 20000 in
theorem ggX7_held_X7_asks : GoodIn wsX7_held wsX7_asks := goodIn_r _ [9, 10, 24, 25, 26, 27, 28, 29, 30, 31, 32, 33, 34, 35] (by decide +kernel) (by decide +kernel)
set_option maxRecDepth 20000 in
theorem gX7_held_X7_asks : GoodIn wsX7_held (wsV RX7 49 RX7 yX7_asks wsX7_asks) := goodIn_app (goodIn_of _ (by decide +kernel)) ggX7_held_X7_asks
set_option maxRecDepth 20000 in
theorem ggX7_held_X7_closes : GoodIn wsX7_held wsX7_closes := goodIn_r _ [14, 1, 15, 16, 17, 18, 4, 19, 20, 21, 22, 23, 24, 25, 26, 27, 28, 29, 30, 31, 32, 33, 34, 35] (by decide +kernel) (by decide +kernel)
set_option maxRecDepth 20000 in
theorem gX7_held_X7_closes : GoodIn wsX7_held (wsV RX7 78 RX7 yX7_closes wsX7_closes) := goodIn_app (goodIn_of _ (by decide +kernel)) ggX7_held_X7_closes
theorem dX7_held_0 : decode cX7_held 0 = .ok (.aload_n 0, 1) := by decide +kernel
theorem dX7_held_1 : decode cX7_held 1 = .ok (.iload_n 1, 1) := by decide +kernel
theorem dX7_held_2 : decode cX7_held 2 = .ok (.invokestatic 42, 3) := by decide +kernel
theorem dX7_held_5 : decode cX7_held 5 = .ok (.invokevirtual 49, 3) := by decide +kernel
theorem dX7_held_8 : decode cX7_held 8 = .ok (.ifCond .ne 5, 3) := by decide +kernel
theorem dX7_held_11 : decode cX7_held 11 = .ok (.iconst 0, 1) := by decide +kernel
theorem dX7_held_12 : decode cX7_held 12 = .ok (.ireturn, 1) := by decide +kernel
theorem dX7_held_13 : decode cX7_held 13 = .ok (.aload_n 0, 1) := by decide +kernel
theorem dX7_held_14 : decode cX7_held 14 = .ok (.iload_n 1, 1) := by decide +kernel
theorem dX7_held_15 : decode cX7_held 15 = .ok (.invokevirtual 78, 3) := by decide +kernel
theorem dX7_held_18 : decode cX7_held 18 = .ok (.iconst 0, 1) := by decide +kernel
theorem dX7_held_19 : decode cX7_held 19 = .ok (.istore_n 2, 1) := by decide +kernel
theorem dX7_held_20 : decode cX7_held 20 = .ok (.bipush 100, 2) := by decide +kernel
theorem dX7_held_22 : decode cX7_held 22 = .ok (.iload_n 1, 1) := by decide +kernel
theorem dX7_held_23 : decode cX7_held 23 = .ok (.imul, 1) := by decide +kernel
theorem dX7_held_24 : decode cX7_held 24 = .ok (.istore_n 3, 1) := by decide +kernel
theorem dX7_held_25 : decode cX7_held 25 = .ok (.iload_n 3, 1) := by decide +kernel
theorem dX7_held_26 : decode cX7_held 26 = .ok (.bipush 100, 2) := by decide +kernel
theorem dX7_held_28 : decode cX7_held 28 = .ok (.iload_n 1, 1) := by decide +kernel
theorem dX7_held_29 : decode cX7_held 29 = .ok (.imul, 1) := by decide +kernel
theorem dX7_held_30 : decode cX7_held 30 = .ok (.bipush 100, 2) := by decide +kernel
theorem dX7_held_32 : decode cX7_held 32 = .ok (.iadd, 1) := by decide +kernel
theorem dX7_held_33 : decode cX7_held 33 = .ok (.if_icmp .ge 26, 3) := by decide +kernel
theorem dX7_held_36 : decode cX7_held 36 = .ok (.iload_n 2, 1) := by decide +kernel
theorem dX7_held_37 : decode cX7_held 37 = .ok (.aload_n 0, 1) := by decide +kernel
theorem dX7_held_38 : decode cX7_held 38 = .ok (.getfield 20, 3) := by decide +kernel
theorem dX7_held_41 : decode cX7_held 41 = .ok (.iload_n 3, 1) := by decide +kernel
theorem dX7_held_42 : decode cX7_held 42 = .ok (.baload, 1) := by decide +kernel
theorem dX7_held_43 : decode cX7_held 43 = .ok (.ifCond .eq 7, 3) := by decide +kernel
theorem dX7_held_46 : decode cX7_held 46 = .ok (.iconst 1, 1) := by decide +kernel
theorem dX7_held_47 : decode cX7_held 47 = .ok (.goto 4, 3) := by decide +kernel
theorem dX7_held_50 : decode cX7_held 50 = .ok (.iconst 0, 1) := by decide +kernel
theorem dX7_held_51 : decode cX7_held 51 = .ok (.iadd, 1) := by decide +kernel
theorem dX7_held_52 : decode cX7_held 52 = .ok (.istore_n 2, 1) := by decide +kernel
theorem dX7_held_53 : decode cX7_held 53 = .ok (.iinc 3 1, 3) := by decide +kernel
theorem dX7_held_56 : decode cX7_held 56 = .ok (.goto (-31), 3) := by decide +kernel
theorem dX7_held_59 : decode cX7_held 59 = .ok (.iload_n 2, 1) := by decide +kernel
theorem dX7_held_60 : decode cX7_held 60 = .ok (.ireturn, 1) := by decide +kernel
set_option maxRecDepth 20000 in
theorem ggX7_holds_X7_asksLink : GoodIn wsX7_holds wsX7_asksLink := goodIn_r _ [6, 7, 8, 9, 10, 5, 11, 12, 13, 14, 15, 16, 17, 18, 32, 33, 34, 35, 36, 37, 38, 39, 40, 41, 42, 43] (by decide +kernel) (by decide +kernel)
set_option maxRecDepth 20000 in
theorem gX7_holds_X7_asksLink : GoodIn wsX7_holds (wsV RX7 64 RX7 yX7_asksLink wsX7_asksLink) := goodIn_app (goodIn_of _ (by decide +kernel)) ggX7_holds_X7_asksLink
set_option maxRecDepth 20000 in
theorem ggX7_holds_X7_closes : GoodIn wsX7_holds wsX7_closes := goodIn_r _ [22, 1, 23, 24, 25, 26, 5, 27, 28, 29, 30, 31, 32, 33, 34, 35, 36, 37, 38, 39, 40, 41, 42, 43] (by decide +kernel) (by decide +kernel)
set_option maxRecDepth 20000 in
theorem gX7_holds_X7_closes : GoodIn wsX7_holds (wsV RX7 78 RX7 yX7_closes wsX7_closes) := goodIn_app (goodIn_of _ (by decide +kernel)) ggX7_holds_X7_closes
set_option maxRecDepth 20000 in
theorem ggX7_holds_X7_at : GoodIn wsX7_holds wsX7_at := goodIn_r _ [31] (by decide +kernel) (by decide +kernel)
set_option maxRecDepth 20000 in
theorem gX7_holds_X7_at : GoodIn wsX7_holds (va_wsS RX7 68 yX7_at wsX7_at) := goodIn_app (goodIn_of _ (by decide +kernel)) ggX7_holds_X7_at
theorem dX7_holds_0 : decode cX7_holds 0 = .ok (.aload_n 0, 1) := by decide +kernel
theorem dX7_holds_1 : decode cX7_holds 1 = .ok (.iload_n 1, 1) := by decide +kernel
theorem dX7_holds_2 : decode cX7_holds 2 = .ok (.iload_n 2, 1) := by decide +kernel
theorem dX7_holds_3 : decode cX7_holds 3 = .ok (.iload_n 3, 1) := by decide +kernel
theorem dX7_holds_4 : decode cX7_holds 4 = .ok (.iload 4, 2) := by decide +kernel
theorem dX7_holds_6 : decode cX7_holds 6 = .ok (.invokevirtual 64, 3) := by decide +kernel
theorem dX7_holds_9 : decode cX7_holds 9 = .ok (.ifCond .ne 5, 3) := by decide +kernel
theorem dX7_holds_12 : decode cX7_holds 12 = .ok (.iconst 0, 1) := by decide +kernel
theorem dX7_holds_13 : decode cX7_holds 13 = .ok (.ireturn, 1) := by decide +kernel
theorem dX7_holds_14 : decode cX7_holds 14 = .ok (.aload_n 0, 1) := by decide +kernel
theorem dX7_holds_15 : decode cX7_holds 15 = .ok (.iload_n 1, 1) := by decide +kernel
theorem dX7_holds_16 : decode cX7_holds 16 = .ok (.invokevirtual 78, 3) := by decide +kernel
theorem dX7_holds_19 : decode cX7_holds 19 = .ok (.aload_n 0, 1) := by decide +kernel
theorem dX7_holds_20 : decode cX7_holds 20 = .ok (.getfield 20, 3) := by decide +kernel
theorem dX7_holds_23 : decode cX7_holds 23 = .ok (.iload_n 1, 1) := by decide +kernel
theorem dX7_holds_24 : decode cX7_holds 24 = .ok (.iload_n 2, 1) := by decide +kernel
theorem dX7_holds_25 : decode cX7_holds 25 = .ok (.iload_n 3, 1) := by decide +kernel
theorem dX7_holds_26 : decode cX7_holds 26 = .ok (.iload 4, 2) := by decide +kernel
theorem dX7_holds_28 : decode cX7_holds 28 = .ok (.invokestatic 68, 3) := by decide +kernel
theorem dX7_holds_31 : decode cX7_holds 31 = .ok (.baload, 1) := by decide +kernel
theorem dX7_holds_32 : decode cX7_holds 32 = .ok (.ireturn, 1) := by decide +kernel
theorem dX7_may_0 : decode cX7_may 0 = .ok (.aload_n 0, 1) := by decide +kernel
theorem dX7_may_1 : decode cX7_may 1 = .ok (.getfield 29, 3) := by decide +kernel
theorem dX7_may_4 : decode cX7_may 4 = .ok (.iload_n 2, 1) := by decide +kernel
theorem dX7_may_5 : decode cX7_may 5 = .ok (.iaload, 1) := by decide +kernel
theorem dX7_may_6 : decode cX7_may 6 = .ok (.aload_n 0, 1) := by decide +kernel
theorem dX7_may_7 : decode cX7_may 7 = .ok (.getfield 7, 3) := by decide +kernel
theorem dX7_may_10 : decode cX7_may 10 = .ok (.iload_n 1, 1) := by decide +kernel
theorem dX7_may_11 : decode cX7_may 11 = .ok (.iaload, 1) := by decide +kernel
theorem dX7_may_12 : decode cX7_may 12 = .ok (.if_icmp .eq 37, 3) := by decide +kernel
theorem dX7_may_15 : decode cX7_may 15 = .ok (.aload_n 0, 1) := by decide +kernel
theorem dX7_may_16 : decode cX7_may 16 = .ok (.getfield 23, 3) := by decide +kernel
theorem dX7_may_19 : decode cX7_may 19 = .ok (.aload_n 0, 1) := by decide +kernel
theorem dX7_may_20 : decode cX7_may 20 = .ok (.getfield 13, 3) := by decide +kernel
theorem dX7_may_23 : decode cX7_may 23 = .ok (.iload_n 2, 1) := by decide +kernel
theorem dX7_may_24 : decode cX7_may 24 = .ok (.iaload, 1) := by decide +kernel
theorem dX7_may_25 : decode cX7_may 25 = .ok (.iaload, 1) := by decide +kernel
theorem dX7_may_26 : decode cX7_may 26 = .ok (.aload_n 0, 1) := by decide +kernel
theorem dX7_may_27 : decode cX7_may 27 = .ok (.getfield 23, 3) := by decide +kernel
theorem dX7_may_30 : decode cX7_may 30 = .ok (.aload_n 0, 1) := by decide +kernel
theorem dX7_may_31 : decode cX7_may 31 = .ok (.getfield 13, 3) := by decide +kernel
theorem dX7_may_34 : decode cX7_may 34 = .ok (.iconst 5, 1) := by decide +kernel
theorem dX7_may_35 : decode cX7_may 35 = .ok (.iload_n 1, 1) := by decide +kernel
theorem dX7_may_36 : decode cX7_may 36 = .ok (.imul, 1) := by decide +kernel
theorem dX7_may_37 : decode cX7_may 37 = .ok (.aload_n 0, 1) := by decide +kernel
theorem dX7_may_38 : decode cX7_may 38 = .ok (.getfield 29, 3) := by decide +kernel
theorem dX7_may_41 : decode cX7_may 41 = .ok (.iload_n 2, 1) := by decide +kernel
theorem dX7_may_42 : decode cX7_may 42 = .ok (.iaload, 1) := by decide +kernel
theorem dX7_may_43 : decode cX7_may 43 = .ok (.iadd, 1) := by decide +kernel
theorem dX7_may_44 : decode cX7_may 44 = .ok (.iaload, 1) := by decide +kernel
theorem dX7_may_45 : decode cX7_may 45 = .ok (.iaload, 1) := by decide +kernel
theorem dX7_may_46 : decode cX7_may 46 = .ok (.if_icmp .ne 7, 3) := by decide +kernel
theorem dX7_may_49 : decode cX7_may 49 = .ok (.iconst 1, 1) := by decide +kernel
theorem dX7_may_50 : decode cX7_may 50 = .ok (.goto 4, 3) := by decide +kernel
theorem dX7_may_53 : decode cX7_may 53 = .ok (.iconst 0, 1) := by decide +kernel
theorem dX7_may_54 : decode cX7_may 54 = .ok (.istore_n 3, 1) := by decide +kernel
theorem dX7_may_55 : decode cX7_may 55 = .ok (.iconst 0, 1) := by decide +kernel
theorem dX7_may_56 : decode cX7_may 56 = .ok (.istore 4, 2) := by decide +kernel
theorem dX7_may_58 : decode cX7_may 58 = .ok (.iload 4, 2) := by decide +kernel
theorem dX7_may_60 : decode cX7_may 60 = .ok (.iload_n 2, 1) := by decide +kernel
theorem dX7_may_61 : decode cX7_may 61 = .ok (.if_icmp .ge 50, 3) := by decide +kernel
theorem dX7_may_64 : decode cX7_may 64 = .ok (.iload_n 3, 1) := by decide +kernel
theorem dX7_may_65 : decode cX7_may 65 = .ok (.ifCond .eq 38, 3) := by decide +kernel
theorem dX7_may_68 : decode cX7_may 68 = .ok (.aload_n 0, 1) := by decide +kernel
theorem dX7_may_69 : decode cX7_may 69 = .ok (.getfield 29, 3) := by decide +kernel
theorem dX7_may_72 : decode cX7_may 72 = .ok (.iload_n 2, 1) := by decide +kernel
theorem dX7_may_73 : decode cX7_may 73 = .ok (.iaload, 1) := by decide +kernel
theorem dX7_may_74 : decode cX7_may 74 = .ok (.aload_n 0, 1) := by decide +kernel
theorem dX7_may_75 : decode cX7_may 75 = .ok (.getfield 7, 3) := by decide +kernel
theorem dX7_may_78 : decode cX7_may 78 = .ok (.iload_n 1, 1) := by decide +kernel
theorem dX7_may_79 : decode cX7_may 79 = .ok (.iaload, 1) := by decide +kernel
theorem dX7_may_80 : decode cX7_may 80 = .ok (.if_icmp .eq 19, 3) := by decide +kernel
theorem dX7_may_83 : decode cX7_may 83 = .ok (.aload_n 0, 1) := by decide +kernel
theorem dX7_may_84 : decode cX7_may 84 = .ok (.getfield 29, 3) := by decide +kernel
theorem dX7_may_87 : decode cX7_may 87 = .ok (.iload 4, 2) := by decide +kernel
theorem dX7_may_89 : decode cX7_may 89 = .ok (.iaload, 1) := by decide +kernel
theorem dX7_may_90 : decode cX7_may 90 = .ok (.aload_n 0, 1) := by decide +kernel
theorem dX7_may_91 : decode cX7_may 91 = .ok (.getfield 29, 3) := by decide +kernel
theorem dX7_may_94 : decode cX7_may 94 = .ok (.iload_n 2, 1) := by decide +kernel
theorem dX7_may_95 : decode cX7_may 95 = .ok (.iaload, 1) := by decide +kernel
theorem dX7_may_96 : decode cX7_may 96 = .ok (.if_icmp .eq 7, 3) := by decide +kernel
theorem dX7_may_99 : decode cX7_may 99 = .ok (.iconst 1, 1) := by decide +kernel
theorem dX7_may_100 : decode cX7_may 100 = .ok (.goto 4, 3) := by decide +kernel
theorem dX7_may_103 : decode cX7_may 103 = .ok (.iconst 0, 1) := by decide +kernel
theorem dX7_may_104 : decode cX7_may 104 = .ok (.istore_n 3, 1) := by decide +kernel
theorem dX7_may_105 : decode cX7_may 105 = .ok (.iinc 4 1, 3) := by decide +kernel
theorem dX7_may_108 : decode cX7_may 108 = .ok (.goto (-50), 3) := by decide +kernel
theorem dX7_may_111 : decode cX7_may 111 = .ok (.iload_n 3, 1) := by decide +kernel
theorem dX7_may_112 : decode cX7_may 112 = .ok (.ireturn, 1) := by decide +kernel
theorem dX7_turns_0 : decode cX7_turns 0 = .ok (.iconst 0, 1) := by decide +kernel
theorem dX7_turns_1 : decode cX7_turns 1 = .ok (.istore_n 2, 1) := by decide +kernel
theorem dX7_turns_2 : decode cX7_turns 2 = .ok (.iload_n 2, 1) := by decide +kernel
theorem dX7_turns_3 : decode cX7_turns 3 = .ok (.iconst 5, 1) := by decide +kernel
theorem dX7_turns_4 : decode cX7_turns 4 = .ok (.if_icmp .ge 16, 3) := by decide +kernel
theorem dX7_turns_7 : decode cX7_turns 7 = .ok (.aload_n 0, 1) := by decide +kernel
theorem dX7_turns_8 : decode cX7_turns 8 = .ok (.getfield 35, 3) := by decide +kernel
theorem dX7_turns_11 : decode cX7_turns 11 = .ok (.iload_n 2, 1) := by decide +kernel
theorem dX7_turns_12 : decode cX7_turns 12 = .ok (.iconst (-1), 1) := by decide +kernel
theorem dX7_turns_13 : decode cX7_turns 13 = .ok (.iastore, 1) := by decide +kernel
theorem dX7_turns_14 : decode cX7_turns 14 = .ok (.iinc 2 1, 3) := by decide +kernel
theorem dX7_turns_17 : decode cX7_turns 17 = .ok (.goto (-15), 3) := by decide +kernel
theorem dX7_turns_20 : decode cX7_turns 20 = .ok (.iconst 0, 1) := by decide +kernel
theorem dX7_turns_21 : decode cX7_turns 21 = .ok (.istore_n 2, 1) := by decide +kernel
theorem dX7_turns_22 : decode cX7_turns 22 = .ok (.iload_n 2, 1) := by decide +kernel
