theorem dX6_takeTrialLink_59 : decode cX6_takeTrialLink 59 = .ok (.invokevirtual 120, 3) := by decide +kernel
theorem dX6_takeTrialLink_62 : decode cX6_takeTrialLink 62 = .ok (.return_, 1) := by decide +kernel
set_option maxRecDepth 20000 in
theorem ggX6_pointsFor_J6_bitCount_0f7a4 : GoodIn wsX6_pointsFor wsJ6_bitCount_0f7a4 := goodIn_r _ [4, 5, 6, 7] (by decide +kernel) (by decide +kernel)
set_option maxRecDepth 20000 in
theorem gX6_pointsFor_J6_bitCount_0f7a4 : GoodIn wsX6_pointsFor (va_wsS RX6 208 yJ6_bitCount_0f7a4 wsJ6_bitCount_0f7a4) := goodIn_app (goodIn_of _ (by decide +kernel)) ggX6_pointsFor_J6_bitCount_0f7a4
theorem dX6_pointsFor_0 : decode cX6_pointsFor 0 = .ok (.iload_n 0, 1) := by decide +kernel
theorem dX6_pointsFor_1 : decode cX6_pointsFor 1 = .ok (.iload_n 1, 1) := by decide +kernel
theorem dX6_pointsFor_2 : decode cX6_pointsFor 2 = .ok (.iconst (-1), 1) := by decide +kernel
theorem dX6_pointsFor_3 : decode cX6_pointsFor 3 = .ok (.ixor, 1) := by decide +kernel
theorem dX6_pointsFor_4 : decode cX6_pointsFor 4 = .ok (.iand, 1) := by decide +kernel
theorem dX6_pointsFor_5 : decode cX6_pointsFor 5 = .ok (.istore 4, 2) := by decide +kernel
theorem dX6_pointsFor_7 : decode cX6_pointsFor 7 = .ok (.iconst 4, 1) := by decide +kernel
theorem dX6_pointsFor_8 : decode cX6_pointsFor 8 = .ok (.iload_n 0, 1) := by decide +kernel
theorem dX6_pointsFor_9 : decode cX6_pointsFor 9 = .ok (.iload_n 1, 1) := by decide +kernel
theorem dX6_pointsFor_10 : decode cX6_pointsFor 10 = .ok (.iand, 1) := by decide +kernel
theorem dX6_pointsFor_11 : decode cX6_pointsFor 11 = .ok (.invokestatic 208, 3) := by decide +kernel
theorem dX6_pointsFor_14 : decode cX6_pointsFor 14 = .ok (.imul, 1) := by decide +kernel
theorem dX6_pointsFor_15 : decode cX6_pointsFor 15 = .ok (.istore 5, 2) := by decide +kernel
theorem dX6_pointsFor_17 : decode cX6_pointsFor 17 = .ok (.iload_n 2, 1) := by decide +kernel
theorem dX6_pointsFor_18 : decode cX6_pointsFor 18 = .ok (.ifCond .eq 14, 3) := by decide +kernel
theorem dX6_pointsFor_21 : decode cX6_pointsFor 21 = .ok (.iload 5, 2) := by decide +kernel
theorem dX6_pointsFor_23 : decode cX6_pointsFor 23 = .ok (.iconst 2, 1) := by decide +kernel
theorem dX6_pointsFor_24 : decode cX6_pointsFor 24 = .ok (.iload 4, 2) := by decide +kernel
theorem dX6_pointsFor_26 : decode cX6_pointsFor 26 = .ok (.invokestatic 208, 3) := by decide +kernel
theorem dX6_pointsFor_29 : decode cX6_pointsFor 29 = .ok (.imul, 1) := by decide +kernel
theorem dX6_pointsFor_30 : decode cX6_pointsFor 30 = .ok (.iadd, 1) := by decide +kernel
theorem dX6_pointsFor_31 : decode cX6_pointsFor 31 = .ok (.ireturn, 1) := by decide +kernel
theorem dX6_pointsFor_32 : decode cX6_pointsFor 32 = .ok (.iload 5, 2) := by decide +kernel
theorem dX6_pointsFor_34 : decode cX6_pointsFor 34 = .ok (.iconst 1, 1) := by decide +kernel
theorem dX6_pointsFor_35 : decode cX6_pointsFor 35 = .ok (.iload 4, 2) := by decide +kernel
theorem dX6_pointsFor_37 : decode cX6_pointsFor 37 = .ok (.iload_n 3, 1) := by decide +kernel
theorem dX6_pointsFor_38 : decode cX6_pointsFor 38 = .ok (.iand, 1) := by decide +kernel
theorem dX6_pointsFor_39 : decode cX6_pointsFor 39 = .ok (.invokestatic 208, 3) := by decide +kernel
theorem dX6_pointsFor_42 : decode cX6_pointsFor 42 = .ok (.imul, 1) := by decide +kernel
theorem dX6_pointsFor_43 : decode cX6_pointsFor 43 = .ok (.iadd, 1) := by decide +kernel
theorem dX6_pointsFor_44 : decode cX6_pointsFor 44 = .ok (.ireturn, 1) := by decide +kernel
theorem dX6_verdictWorth_0 : decode cX6_verdictWorth 0 = .ok (.iload_n 0, 1) := by decide +kernel
theorem dX6_verdictWorth_1 : decode cX6_verdictWorth 1 = .ok (.tableswitch 37 1 4 #[35, 33, 37, 31], 31) := by decide +kernel
theorem dX6_verdictWorth_32 : decode cX6_verdictWorth 32 = .ok (.iconst 3, 1) := by decide +kernel
theorem dX6_verdictWorth_33 : decode cX6_verdictWorth 33 = .ok (.ireturn, 1) := by decide +kernel
theorem dX6_verdictWorth_34 : decode cX6_verdictWorth 34 = .ok (.iconst 2, 1) := by decide +kernel
theorem dX6_verdictWorth_35 : decode cX6_verdictWorth 35 = .ok (.ireturn, 1) := by decide +kernel
theorem dX6_verdictWorth_36 : decode cX6_verdictWorth 36 = .ok (.iconst 1, 1) := by decide +kernel
theorem dX6_verdictWorth_37 : decode cX6_verdictWorth 37 = .ok (.ireturn, 1) := by decide +kernel
theorem dX6_verdictWorth_38 : decode cX6_verdictWorth 38 = .ok (.iconst 0, 1) := by decide +kernel
theorem dX6_verdictWorth_39 : decode cX6_verdictWorth 39 = .ok (.ireturn, 1) := by decide +kernel
theorem dJ6_bitCount_0f7a4_0 : decode cJ6_bitCount_0f7a4 0 = .ok (.iload_n 0, 1) := by decide +kernel
theorem dJ6_bitCount_0f7a4_1 : decode cJ6_bitCount_0f7a4 1 = .ok (.iload_n 0, 1) := by decide +kernel
theorem dJ6_bitCount_0f7a4_2 : decode cJ6_bitCount_0f7a4 2 = .ok (.iconst 1, 1) := by decide +kernel
theorem dJ6_bitCount_0f7a4_3 : decode cJ6_bitCount_0f7a4 3 = .ok (.iushr, 1) := by decide +kernel
theorem dJ6_bitCount_0f7a4_4 : decode cJ6_bitCount_0f7a4 4 = .ok (.ldc_w 265, 3) := by decide +kernel
theorem dJ6_bitCount_0f7a4_7 : decode cJ6_bitCount_0f7a4 7 = .ok (.iand, 1) := by decide +kernel
theorem dJ6_bitCount_0f7a4_8 : decode cJ6_bitCount_0f7a4 8 = .ok (.isub, 1) := by decide +kernel
theorem dJ6_bitCount_0f7a4_9 : decode cJ6_bitCount_0f7a4 9 = .ok (.istore_n 0, 1) := by decide +kernel
theorem dJ6_bitCount_0f7a4_10 : decode cJ6_bitCount_0f7a4 10 = .ok (.iload_n 0, 1) := by decide +kernel
theorem dJ6_bitCount_0f7a4_11 : decode cJ6_bitCount_0f7a4 11 = .ok (.ldc_w 266, 3) := by decide +kernel
theorem dJ6_bitCount_0f7a4_14 : decode cJ6_bitCount_0f7a4 14 = .ok (.iand, 1) := by decide +kernel
theorem dJ6_bitCount_0f7a4_15 : decode cJ6_bitCount_0f7a4 15 = .ok (.iload_n 0, 1) := by decide +kernel
theorem dJ6_bitCount_0f7a4_16 : decode cJ6_bitCount_0f7a4 16 = .ok (.iconst 2, 1) := by decide +kernel
theorem dJ6_bitCount_0f7a4_17 : decode cJ6_bitCount_0f7a4 17 = .ok (.iushr, 1) := by decide +kernel
theorem dJ6_bitCount_0f7a4_18 : decode cJ6_bitCount_0f7a4 18 = .ok (.ldc_w 266, 3) := by decide +kernel
theorem dJ6_bitCount_0f7a4_21 : decode cJ6_bitCount_0f7a4 21 = .ok (.iand, 1) := by decide +kernel
theorem dJ6_bitCount_0f7a4_22 : decode cJ6_bitCount_0f7a4 22 = .ok (.iadd, 1) := by decide +kernel
theorem dJ6_bitCount_0f7a4_23 : decode cJ6_bitCount_0f7a4 23 = .ok (.istore_n 0, 1) := by decide +kernel
theorem dJ6_bitCount_0f7a4_24 : decode cJ6_bitCount_0f7a4 24 = .ok (.iload_n 0, 1) := by decide +kernel
theorem dJ6_bitCount_0f7a4_25 : decode cJ6_bitCount_0f7a4 25 = .ok (.iload_n 0, 1) := by decide +kernel
theorem dJ6_bitCount_0f7a4_26 : decode cJ6_bitCount_0f7a4 26 = .ok (.iconst 4, 1) := by decide +kernel
theorem dJ6_bitCount_0f7a4_27 : decode cJ6_bitCount_0f7a4 27 = .ok (.iushr, 1) := by decide +kernel
theorem dJ6_bitCount_0f7a4_28 : decode cJ6_bitCount_0f7a4 28 = .ok (.iadd, 1) := by decide +kernel
theorem dJ6_bitCount_0f7a4_29 : decode cJ6_bitCount_0f7a4 29 = .ok (.ldc_w 267, 3) := by decide +kernel
theorem dJ6_bitCount_0f7a4_32 : decode cJ6_bitCount_0f7a4 32 = .ok (.iand, 1) := by decide +kernel
theorem dJ6_bitCount_0f7a4_33 : decode cJ6_bitCount_0f7a4 33 = .ok (.istore_n 0, 1) := by decide +kernel
theorem dJ6_bitCount_0f7a4_34 : decode cJ6_bitCount_0f7a4 34 = .ok (.iload_n 0, 1) := by decide +kernel
theorem dJ6_bitCount_0f7a4_35 : decode cJ6_bitCount_0f7a4 35 = .ok (.iload_n 0, 1) := by decide +kernel
theorem dJ6_bitCount_0f7a4_36 : decode cJ6_bitCount_0f7a4 36 = .ok (.bipush 8, 2) := by decide +kernel
theorem dJ6_bitCount_0f7a4_38 : decode cJ6_bitCount_0f7a4 38 = .ok (.iushr, 1) := by decide +kernel
theorem dJ6_bitCount_0f7a4_39 : decode cJ6_bitCount_0f7a4 39 = .ok (.iadd, 1) := by decide +kernel
theorem dJ6_bitCount_0f7a4_40 : decode cJ6_bitCount_0f7a4 40 = .ok (.istore_n 0, 1) := by decide +kernel
theorem dJ6_bitCount_0f7a4_41 : decode cJ6_bitCount_0f7a4 41 = .ok (.iload_n 0, 1) := by decide +kernel
theorem dJ6_bitCount_0f7a4_42 : decode cJ6_bitCount_0f7a4 42 = .ok (.iload_n 0, 1) := by decide +kernel
theorem dJ6_bitCount_0f7a4_43 : decode cJ6_bitCount_0f7a4 43 = .ok (.bipush 16, 2) := by decide +kernel
theorem dJ6_bitCount_0f7a4_45 : decode cJ6_bitCount_0f7a4 45 = .ok (.iushr, 1) := by decide +kernel
theorem dJ6_bitCount_0f7a4_46 : decode cJ6_bitCount_0f7a4 46 = .ok (.iadd, 1) := by decide +kernel
theorem dJ6_bitCount_0f7a4_47 : decode cJ6_bitCount_0f7a4 47 = .ok (.istore_n 0, 1) := by decide +kernel
theorem dJ6_bitCount_0f7a4_48 : decode cJ6_bitCount_0f7a4 48 = .ok (.iload_n 0, 1) := by decide +kernel
theorem dJ6_bitCount_0f7a4_49 : decode cJ6_bitCount_0f7a4 49 = .ok (.bipush 63, 2) := by decide +kernel
theorem dJ6_bitCount_0f7a4_51 : decode cJ6_bitCount_0f7a4 51 = .ok (.iand, 1) := by decide +kernel
theorem dJ6_bitCount_0f7a4_52 : decode cJ6_bitCount_0f7a4 52 = .ok (.ireturn, 1) := by decide +kernel
theorem dJ9_max_7cf53_0 : decode cJ9_max_7cf53 0 = .ok (.iload_n 0, 1) := by decide +kernel
theorem dJ9_max_7cf53_1 : decode cJ9_max_7cf53 1 = .ok (.iload_n 1, 1) := by decide +kernel
theorem dJ9_max_7cf53_2 : decode cJ9_max_7cf53 2 = .ok (.if_icmp .lt 7, 3) := by decide +kernel
theorem dJ9_max_7cf53_5 : decode cJ9_max_7cf53 5 = .ok (.iload_n 0, 1) := by decide +kernel
theorem dJ9_max_7cf53_6 : decode cJ9_max_7cf53 6 = .ok (.goto 4, 3) := by decide +kernel
theorem dJ9_max_7cf53_9 : decode cJ9_max_7cf53 9 = .ok (.iload_n 1, 1) := by decide +kernel
theorem dJ9_max_7cf53_10 : decode cJ9_max_7cf53 10 = .ok (.ireturn, 1) := by decide +kernel
