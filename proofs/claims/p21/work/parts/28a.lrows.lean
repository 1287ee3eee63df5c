theorem dL_cell_0 : decode cL_cell 0 = .ok (.iload_n 1, 1) := by decide +kernel
theorem dL_cell_1 : decode cL_cell 1 = .ok (.aload_n 0, 1) := by decide +kernel
theorem dL_cell_2 : decode cL_cell 2 = .ok (.arraylength, 1) := by decide +kernel
theorem dL_cell_3 : decode cL_cell 3 = .ok (.if_icmp .ge 9, 3) := by decide +kernel
theorem dL_cell_6 : decode cL_cell 6 = .ok (.aload_n 0, 1) := by decide +kernel
theorem dL_cell_7 : decode cL_cell 7 = .ok (.iload_n 1, 1) := by decide +kernel
theorem dL_cell_8 : decode cL_cell 8 = .ok (.iaload, 1) := by decide +kernel
theorem dL_cell_9 : decode cL_cell 9 = .ok (.goto 11, 3) := by decide +kernel
theorem dL_cell_12 : decode cL_cell 12 = .ok (.sipush 17081, 3) := by decide +kernel
theorem dL_cell_15 : decode cL_cell 15 = .ok (.iload_n 1, 1) := by decide +kernel
theorem dL_cell_16 : decode cL_cell 16 = .ok (.bipush 29, 2) := by decide +kernel
theorem dL_cell_18 : decode cL_cell 18 = .ok (.iadd, 1) := by decide +kernel
theorem dL_cell_19 : decode cL_cell 19 = .ok (.imul, 1) := by decide +kernel
theorem dL_cell_20 : decode cL_cell 20 = .ok (.istore_n 2, 1) := by decide +kernel
theorem dL_cell_21 : decode cL_cell 21 = .ok (.iload_n 2, 1) := by decide +kernel
theorem dL_cell_22 : decode cL_cell 22 = .ok (.iload_n 2, 1) := by decide +kernel
theorem dL_cell_23 : decode cL_cell 23 = .ok (.bipush 14, 2) := by decide +kernel
theorem dL_cell_25 : decode cL_cell 25 = .ok (.iushr, 1) := by decide +kernel
theorem dL_cell_26 : decode cL_cell 26 = .ok (.ixor, 1) := by decide +kernel
theorem dL_cell_27 : decode cL_cell 27 = .ok (.ldc 7, 2) := by decide +kernel
theorem dL_cell_29 : decode cL_cell 29 = .ok (.imul, 1) := by decide +kernel
theorem dL_cell_30 : decode cL_cell 30 = .ok (.bipush 103, 2) := by decide +kernel
theorem dL_cell_32 : decode cL_cell 32 = .ok (.iload_n 1, 1) := by decide +kernel
theorem dL_cell_33 : decode cL_cell 33 = .ok (.imul, 1) := by decide +kernel
theorem dL_cell_34 : decode cL_cell 34 = .ok (.iadd, 1) := by decide +kernel
theorem dL_cell_35 : decode cL_cell 35 = .ok (.ireturn, 1) := by decide +kernel
theorem dL_some_0 : decode cL_some 0 = .ok (.iload_n 0, 1) := by decide +kernel
theorem dL_some_1 : decode cL_some 1 = .ok (.iconst 1, 1) := by decide +kernel
theorem dL_some_2 : decode cL_some 2 = .ok (.iushr, 1) := by decide +kernel
theorem dL_some_3 : decode cL_some 3 = .ok (.iload_n 1, 1) := by decide +kernel
theorem dL_some_4 : decode cL_some 4 = .ok (.irem, 1) := by decide +kernel
theorem dL_some_5 : decode cL_some 5 = .ok (.ireturn, 1) := by decide +kernel
theorem dL_call_0 : decode cL_call 0 = .ok (.aload_n 0, 1) := by decide +kernel
theorem dL_call_1 : decode cL_call 1 = .ok (.iload_n 1, 1) := by decide +kernel
theorem dL_call_2 : decode cL_call 2 = .ok (.iload_n 2, 1) := by decide +kernel
theorem dL_call_3 : decode cL_call 3 = .ok (.iload_n 3, 1) := by decide +kernel
theorem dL_call_4 : decode cL_call 4 = .ok (.iload 4, 2) := by decide +kernel
theorem dL_call_6 : decode cL_call 6 = .ok (.iload 5, 2) := by decide +kernel
theorem dL_call_8 : decode cL_call 8 = .ok (.invokestatic 8, 3) := by decide +kernel
theorem dL_call_11 : decode cL_call 11 = .ok (.ireturn, 1) := by decide +kernel
theorem dL_call_12 : decode cL_call 12 = .ok (.astore 6, 2) := by decide +kernel
theorem dL_call_14 : decode cL_call 14 = .ok (.bipush (-111), 2) := by decide +kernel
theorem dL_call_16 : decode cL_call 16 = .ok (.ireturn, 1) := by decide +kernel
theorem dL_call_17 : decode cL_call 17 = .ok (.astore 6, 2) := by decide +kernel
theorem dL_call_19 : decode cL_call 19 = .ok (.bipush (-112), 2) := by decide +kernel
theorem dL_call_21 : decode cL_call 21 = .ok (.ireturn, 1) := by decide +kernel
theorem dL_call_22 : decode cL_call 22 = .ok (.astore 6, 2) := by decide +kernel
theorem dL_call_24 : decode cL_call 24 = .ok (.bipush (-113), 2) := by decide +kernel
theorem dL_call_26 : decode cL_call 26 = .ok (.ireturn, 1) := by decide +kernel
theorem dL_does_0 : decode cL_does 0 = .ok (.iload_n 1, 1) := by decide +kernel
theorem dL_does_1 : decode cL_does 1 = .ok (.tableswitch 220 0 15 #[79, 86, 105, 111, 126, 135, 141, 147, 153, 172, 178, 184, 190, 197, 208, 214], 79) := by decide +kernel
theorem dL_does_80 : decode cL_does 80 = .ok (.aload_n 0, 1) := by decide +kernel
theorem dL_does_81 : decode cL_does 81 = .ok (.iload_n 2, 1) := by decide +kernel
theorem dL_does_82 : decode cL_does 82 = .ok (.iload_n 3, 1) := by decide +kernel
theorem dL_does_83 : decode cL_does 83 = .ok (.invokevirtual 20, 3) := by decide +kernel
theorem dL_does_86 : decode cL_does 86 = .ok (.ireturn, 1) := by decide +kernel
theorem dL_does_87 : decode cL_does 87 = .ok (.aload_n 0, 1) := by decide +kernel
theorem dL_does_88 : decode cL_does 88 = .ok (.iload_n 2, 1) := by decide +kernel
theorem dL_does_89 : decode cL_does 89 = .ok (.iload_n 3, 1) := by decide +kernel
theorem dL_does_90 : decode cL_does 90 = .ok (.iload 4, 2) := by decide +kernel
theorem dL_does_92 : decode cL_does 92 = .ok (.iload 5, 2) := by decide +kernel
theorem dL_does_94 : decode cL_does 94 = .ok (.invokevirtual 26, 3) := by decide +kernel
theorem dL_does_97 : decode cL_does 97 = .ok (.ifCond .eq 7, 3) := by decide +kernel
theorem dL_does_100 : decode cL_does 100 = .ok (.iconst 1, 1) := by decide +kernel
theorem dL_does_101 : decode cL_does 101 = .ok (.goto 4, 3) := by decide +kernel
theorem dL_does_104 : decode cL_does 104 = .ok (.iconst 0, 1) := by decide +kernel
theorem dL_does_105 : decode cL_does 105 = .ok (.ireturn, 1) := by decide +kernel
theorem dL_does_106 : decode cL_does 106 = .ok (.aload_n 0, 1) := by decide +kernel
theorem dL_does_107 : decode cL_does 107 = .ok (.iload_n 2, 1) := by decide +kernel
theorem dL_does_108 : decode cL_does 108 = .ok (.invokevirtual 30, 3) := by decide +kernel
theorem dL_does_111 : decode cL_does 111 = .ok (.ireturn, 1) := by decide +kernel
theorem dL_does_112 : decode cL_does 112 = .ok (.aload_n 0, 1) := by decide +kernel
theorem dL_does_113 : decode cL_does 113 = .ok (.iload_n 2, 1) := by decide +kernel
theorem dL_does_114 : decode cL_does 114 = .ok (.iload_n 3, 1) := by decide +kernel
theorem dL_does_115 : decode cL_does 115 = .ok (.invokevirtual 34, 3) := by decide +kernel
theorem dL_does_118 : decode cL_does 118 = .ok (.ifCond .eq 7, 3) := by decide +kernel
theorem dL_does_121 : decode cL_does 121 = .ok (.iconst 1, 1) := by decide +kernel
theorem dL_does_122 : decode cL_does 122 = .ok (.goto 4, 3) := by decide +kernel
theorem dL_does_125 : decode cL_does 125 = .ok (.iconst 0, 1) := by decide +kernel
theorem dL_does_126 : decode cL_does 126 = .ok (.ireturn, 1) := by decide +kernel
theorem dL_does_127 : decode cL_does 127 = .ok (.aload_n 0, 1) := by decide +kernel
theorem dL_does_128 : decode cL_does 128 = .ok (.iload_n 2, 1) := by decide +kernel
theorem dL_does_129 : decode cL_does 129 = .ok (.iload_n 3, 1) := by decide +kernel
theorem dL_does_130 : decode cL_does 130 = .ok (.iload 4, 2) := by decide +kernel
theorem dL_does_132 : decode cL_does 132 = .ok (.invokevirtual 38, 3) := by decide +kernel
theorem dL_does_135 : decode cL_does 135 = .ok (.ireturn, 1) := by decide +kernel
theorem dL_does_136 : decode cL_does 136 = .ok (.aload_n 0, 1) := by decide +kernel
theorem dL_does_137 : decode cL_does 137 = .ok (.iload_n 2, 1) := by decide +kernel
theorem dL_does_138 : decode cL_does 138 = .ok (.invokevirtual 42, 3) := by decide +kernel
theorem dL_does_141 : decode cL_does 141 = .ok (.ireturn, 1) := by decide +kernel
theorem dL_does_142 : decode cL_does 142 = .ok (.aload_n 0, 1) := by decide +kernel
theorem dL_does_143 : decode cL_does 143 = .ok (.iload_n 2, 1) := by decide +kernel
theorem dL_does_144 : decode cL_does 144 = .ok (.invokevirtual 45, 3) := by decide +kernel
theorem dL_does_147 : decode cL_does 147 = .ok (.ireturn, 1) := by decide +kernel
theorem dL_does_148 : decode cL_does 148 = .ok (.aload_n 0, 1) := by decide +kernel
theorem dL_does_149 : decode cL_does 149 = .ok (.iload_n 2, 1) := by decide +kernel
theorem dL_does_150 : decode cL_does 150 = .ok (.invokevirtual 48, 3) := by decide +kernel
theorem dL_does_153 : decode cL_does 153 = .ok (.ireturn, 1) := by decide +kernel
theorem dL_does_154 : decode cL_does 154 = .ok (.aload_n 0, 1) := by decide +kernel
theorem dL_does_155 : decode cL_does 155 = .ok (.iload_n 2, 1) := by decide +kernel
theorem dL_does_156 : decode cL_does 156 = .ok (.iload_n 3, 1) := by decide +kernel
theorem dL_does_157 : decode cL_does 157 = .ok (.iload 4, 2) := by decide +kernel
theorem dL_does_159 : decode cL_does 159 = .ok (.iload 5, 2) := by decide +kernel
theorem dL_does_161 : decode cL_does 161 = .ok (.invokevirtual 51, 3) := by decide +kernel
theorem dL_does_164 : decode cL_does 164 = .ok (.ifCond .eq 7, 3) := by decide +kernel
theorem dL_does_167 : decode cL_does 167 = .ok (.iconst 1, 1) := by decide +kernel
theorem dL_does_168 : decode cL_does 168 = .ok (.goto 4, 3) := by decide +kernel
theorem dL_does_171 : decode cL_does 171 = .ok (.iconst 0, 1) := by decide +kernel
theorem dL_does_172 : decode cL_does 172 = .ok (.ireturn, 1) := by decide +kernel
theorem dL_does_173 : decode cL_does 173 = .ok (.aload_n 0, 1) := by decide +kernel
theorem dL_does_174 : decode cL_does 174 = .ok (.iload_n 2, 1) := by decide +kernel
theorem dL_does_175 : decode cL_does 175 = .ok (.invokevirtual 54, 3) := by decide +kernel
theorem dL_does_178 : decode cL_does 178 = .ok (.ireturn, 1) := by decide +kernel
theorem dL_does_179 : decode cL_does 179 = .ok (.aload_n 0, 1) := by decide +kernel
theorem dL_does_180 : decode cL_does 180 = .ok (.iload_n 2, 1) := by decide +kernel
theorem dL_does_181 : decode cL_does 181 = .ok (.invokevirtual 57, 3) := by decide +kernel
theorem dL_does_184 : decode cL_does 184 = .ok (.ireturn, 1) := by decide +kernel
theorem dL_does_185 : decode cL_does 185 = .ok (.aload_n 0, 1) := by decide +kernel
theorem dL_does_186 : decode cL_does 186 = .ok (.iload_n 2, 1) := by decide +kernel
theorem dL_does_187 : decode cL_does 187 = .ok (.invokevirtual 60, 3) := by decide +kernel
theorem dL_does_190 : decode cL_does 190 = .ok (.ireturn, 1) := by decide +kernel
theorem dL_does_191 : decode cL_does 191 = .ok (.aload_n 0, 1) := by decide +kernel
theorem dL_does_192 : decode cL_does 192 = .ok (.iload_n 2, 1) := by decide +kernel
theorem dL_does_193 : decode cL_does 193 = .ok (.iload_n 3, 1) := by decide +kernel
theorem dL_does_194 : decode cL_does 194 = .ok (.invokevirtual 63, 3) := by decide +kernel
theorem dL_does_197 : decode cL_does 197 = .ok (.ireturn, 1) := by decide +kernel
theorem dL_does_198 : decode cL_does 198 = .ok (.aload_n 0, 1) := by decide +kernel
theorem dL_does_199 : decode cL_does 199 = .ok (.iload_n 2, 1) := by decide +kernel
theorem dL_does_200 : decode cL_does 200 = .ok (.iload_n 3, 1) := by decide +kernel
theorem dL_does_201 : decode cL_does 201 = .ok (.iload 4, 2) := by decide +kernel
theorem dL_does_203 : decode cL_does 203 = .ok (.iload 5, 2) := by decide +kernel
theorem dL_does_205 : decode cL_does 205 = .ok (.invokevirtual 66, 3) := by decide +kernel
theorem dL_does_208 : decode cL_does 208 = .ok (.ireturn, 1) := by decide +kernel
theorem dL_does_209 : decode cL_does 209 = .ok (.aload_n 0, 1) := by decide +kernel
theorem dL_does_210 : decode cL_does 210 = .ok (.iload_n 2, 1) := by decide +kernel
theorem dL_does_211 : decode cL_does 211 = .ok (.invokevirtual 70, 3) := by decide +kernel
theorem dL_does_214 : decode cL_does 214 = .ok (.ireturn, 1) := by decide +kernel
theorem dL_does_215 : decode cL_does 215 = .ok (.aload_n 0, 1) := by decide +kernel
theorem dL_does_216 : decode cL_does 216 = .ok (.iload_n 2, 1) := by decide +kernel
theorem dL_does_217 : decode cL_does 217 = .ok (.invokevirtual 73, 3) := by decide +kernel
theorem dL_does_220 : decode cL_does 220 = .ok (.ireturn, 1) := by decide +kernel
theorem dL_does_221 : decode cL_does 221 = .ok (.aload_n 0, 1) := by decide +kernel
theorem dL_does_222 : decode cL_does 222 = .ok (.iload_n 2, 1) := by decide +kernel
theorem dL_does_223 : decode cL_does 223 = .ok (.invokevirtual 76, 3) := by decide +kernel
theorem dL_does_226 : decode cL_does 226 = .ok (.ireturn, 1) := by decide +kernel
theorem dL_all_0 : decode cL_all 0 = .ok (.ldc2_w 79, 3) := by decide +kernel
theorem dL_all_3 : decode cL_all 3 = .ok (.lstore_n 1, 1) := by decide +kernel
theorem dL_all_4 : decode cL_all 4 = .ok (.iconst 0, 1) := by decide +kernel
theorem dL_all_5 : decode cL_all 5 = .ok (.istore_n 3, 1) := by decide +kernel
theorem dL_all_6 : decode cL_all 6 = .ok (.iload_n 3, 1) := by decide +kernel
theorem dL_all_7 : decode cL_all 7 = .ok (.iconst 4, 1) := by decide +kernel
theorem dL_all_8 : decode cL_all 8 = .ok (.if_icmp .ge 44, 3) := by decide +kernel
theorem dL_all_11 : decode cL_all 11 = .ok (.lload_n 1, 1) := by decide +kernel
theorem dL_all_12 : decode cL_all 12 = .ok (.ldc2_w 79, 3) := by decide +kernel
theorem dL_all_15 : decode cL_all 15 = .ok (.lmul, 1) := by decide +kernel
theorem dL_all_16 : decode cL_all 16 = .ok (.aload_n 0, 1) := by decide +kernel
theorem dL_all_17 : decode cL_all 17 = .ok (.iload_n 3, 1) := by decide +kernel
theorem dL_all_18 : decode cL_all 18 = .ok (.invokevirtual 42, 3) := by decide +kernel
theorem dL_all_21 : decode cL_all 21 = .ok (.i2l, 1) := by decide +kernel
theorem dL_all_22 : decode cL_all 22 = .ok (.ladd, 1) := by decide +kernel
theorem dL_all_23 : decode cL_all 23 = .ok (.ldc2_w 81, 3) := by decide +kernel
theorem dL_all_26 : decode cL_all 26 = .ok (.lmul, 1) := by decide +kernel
theorem dL_all_27 : decode cL_all 27 = .ok (.aload_n 0, 1) := by decide +kernel
theorem dL_all_28 : decode cL_all 28 = .ok (.iload_n 3, 1) := by decide +kernel
theorem dL_all_29 : decode cL_all 29 = .ok (.invokevirtual 45, 3) := by decide +kernel
theorem dL_all_32 : decode cL_all 32 = .ok (.i2l, 1) := by decide +kernel
theorem dL_all_33 : decode cL_all 33 = .ok (.ladd, 1) := by decide +kernel
theorem dL_all_34 : decode cL_all 34 = .ok (.ldc2_w 81, 3) := by decide +kernel
theorem dL_all_37 : decode cL_all 37 = .ok (.lmul, 1) := by decide +kernel
theorem dL_all_38 : decode cL_all 38 = .ok (.aload_n 0, 1) := by decide +kernel
theorem dL_all_39 : decode cL_all 39 = .ok (.iload_n 3, 1) := by decide +kernel
theorem dL_all_40 : decode cL_all 40 = .ok (.invokevirtual 48, 3) := by decide +kernel
theorem dL_all_43 : decode cL_all 43 = .ok (.i2l, 1) := by decide +kernel
theorem dL_all_44 : decode cL_all 44 = .ok (.ladd, 1) := by decide +kernel
theorem dL_all_45 : decode cL_all 45 = .ok (.lstore_n 1, 1) := by decide +kernel
theorem dL_all_46 : decode cL_all 46 = .ok (.iinc 3 1, 3) := by decide +kernel
theorem dL_all_49 : decode cL_all 49 = .ok (.goto (-43), 3) := by decide +kernel
theorem dL_all_52 : decode cL_all 52 = .ok (.iconst 1, 1) := by decide +kernel
theorem dL_all_53 : decode cL_all 53 = .ok (.istore_n 3, 1) := by decide +kernel
theorem dL_all_54 : decode cL_all 54 = .ok (.iload_n 3, 1) := by decide +kernel
theorem dL_all_55 : decode cL_all 55 = .ok (.iconst 3, 1) := by decide +kernel
theorem dL_all_56 : decode cL_all 56 = .ok (.if_icmp .ge 33, 3) := by decide +kernel
theorem dL_all_59 : decode cL_all 59 = .ok (.lload_n 1, 1) := by decide +kernel
theorem dL_all_60 : decode cL_all 60 = .ok (.ldc2_w 83, 3) := by decide +kernel
theorem dL_all_63 : decode cL_all 63 = .ok (.lmul, 1) := by decide +kernel
theorem dL_all_64 : decode cL_all 64 = .ok (.aload_n 0, 1) := by decide +kernel
theorem dL_all_65 : decode cL_all 65 = .ok (.iload_n 3, 1) := by decide +kernel
theorem dL_all_66 : decode cL_all 66 = .ok (.invokevirtual 54, 3) := by decide +kernel
theorem dL_all_69 : decode cL_all 69 = .ok (.i2l, 1) := by decide +kernel
theorem dL_all_70 : decode cL_all 70 = .ok (.ladd, 1) := by decide +kernel
theorem dL_all_71 : decode cL_all 71 = .ok (.ldc2_w 79, 3) := by decide +kernel
theorem dL_all_74 : decode cL_all 74 = .ok (.lmul, 1) := by decide +kernel
theorem dL_all_75 : decode cL_all 75 = .ok (.aload_n 0, 1) := by decide +kernel
theorem dL_all_76 : decode cL_all 76 = .ok (.iload_n 3, 1) := by decide +kernel
theorem dL_all_77 : decode cL_all 77 = .ok (.invokevirtual 70, 3) := by decide +kernel
theorem dL_all_80 : decode cL_all 80 = .ok (.i2l, 1) := by decide +kernel
theorem dL_all_81 : decode cL_all 81 = .ok (.ladd, 1) := by decide +kernel
theorem dL_all_82 : decode cL_all 82 = .ok (.lstore_n 1, 1) := by decide +kernel
theorem dL_all_83 : decode cL_all 83 = .ok (.iinc 3 1, 3) := by decide +kernel
theorem dL_all_86 : decode cL_all 86 = .ok (.goto (-32), 3) := by decide +kernel
theorem dL_all_89 : decode cL_all 89 = .ok (.lload_n 1, 1) := by decide +kernel
theorem dL_all_90 : decode cL_all 90 = .ok (.lreturn, 1) := by decide +kernel
theorem dL_hints_0 : decode cL_hints 0 = .ok (.aload_n 0, 1) := by decide +kernel
theorem dL_hints_1 : decode cL_hints 1 = .ok (.iload_n 1, 1) := by decide +kernel
theorem dL_hints_2 : decode cL_hints 2 = .ok (.invokevirtual 54, 3) := by decide +kernel
theorem dL_hints_5 : decode cL_hints 5 = .ok (.istore_n 2, 1) := by decide +kernel
theorem dL_hints_6 : decode cL_hints 6 = .ok (.aload_n 0, 1) := by decide +kernel
theorem dL_hints_7 : decode cL_hints 7 = .ok (.iload_n 1, 1) := by decide +kernel
theorem dL_hints_8 : decode cL_hints 8 = .ok (.invokevirtual 73, 3) := by decide +kernel
theorem dL_hints_11 : decode cL_hints 11 = .ok (.istore_n 3, 1) := by decide +kernel
theorem dL_hints_12 : decode cL_hints 12 = .ok (.aload_n 0, 1) := by decide +kernel
theorem dL_hints_13 : decode cL_hints 13 = .ok (.iload_n 1, 1) := by decide +kernel
theorem dL_hints_14 : decode cL_hints 14 = .ok (.invokevirtual 76, 3) := by decide +kernel
theorem dL_hints_17 : decode cL_hints 17 = .ok (.istore 4, 2) := by decide +kernel
theorem dL_hints_19 : decode cL_hints 19 = .ok (.iload_n 3, 1) := by decide +kernel
theorem dL_hints_20 : decode cL_hints 20 = .ok (.iconst (-1), 1) := by decide +kernel
theorem dL_hints_21 : decode cL_hints 21 = .ok (.if_icmp .ne 14, 3) := by decide +kernel
theorem dL_hints_24 : decode cL_hints 24 = .ok (.iload 4, 2) := by decide +kernel
theorem dL_hints_26 : decode cL_hints 26 = .ok (.ifCond .ne 7, 3) := by decide +kernel
theorem dL_hints_29 : decode cL_hints 29 = .ok (.iconst 1, 1) := by decide +kernel
theorem dL_hints_30 : decode cL_hints 30 = .ok (.goto 4, 3) := by decide +kernel
theorem dL_hints_33 : decode cL_hints 33 = .ok (.iconst 0, 1) := by decide +kernel
theorem dL_hints_34 : decode cL_hints 34 = .ok (.ireturn, 1) := by decide +kernel
theorem dL_hints_35 : decode cL_hints 35 = .ok (.iload_n 3, 1) := by decide +kernel
theorem dL_hints_36 : decode cL_hints 36 = .ok (.bipush 100, 2) := by decide +kernel
theorem dL_hints_38 : decode cL_hints 38 = .ok (.idiv, 1) := by decide +kernel
theorem dL_hints_39 : decode cL_hints 39 = .ok (.istore 5, 2) := by decide +kernel
theorem dL_hints_41 : decode cL_hints 41 = .ok (.iload_n 3, 1) := by decide +kernel
theorem dL_hints_42 : decode cL_hints 42 = .ok (.bipush 10, 2) := by decide +kernel
theorem dL_hints_44 : decode cL_hints 44 = .ok (.idiv, 1) := by decide +kernel
theorem dL_hints_45 : decode cL_hints 45 = .ok (.bipush 10, 2) := by decide +kernel
theorem dL_hints_47 : decode cL_hints 47 = .ok (.irem, 1) := by decide +kernel
theorem dL_hints_48 : decode cL_hints 48 = .ok (.istore 6, 2) := by decide +kernel
theorem dL_hints_50 : decode cL_hints 50 = .ok (.iload 4, 2) := by decide +kernel
theorem dL_hints_52 : decode cL_hints 52 = .ok (.ifCond .le 62, 3) := by decide +kernel
theorem dL_hints_55 : decode cL_hints 55 = .ok (.iload 5, 2) := by decide +kernel
theorem dL_hints_57 : decode cL_hints 57 = .ok (.iload 6, 2) := by decide +kernel
theorem dL_hints_59 : decode cL_hints 59 = .ok (.if_icmp .eq 55, 3) := by decide +kernel
theorem dL_hints_62 : decode cL_hints 62 = .ok (.iload 5, 2) := by decide +kernel
theorem dL_hints_64 : decode cL_hints 64 = .ok (.aload_n 0, 1) := by decide +kernel
theorem dL_hints_65 : decode cL_hints 65 = .ok (.iconst 0, 1) := by decide +kernel
theorem dL_hints_66 : decode cL_hints 66 = .ok (.invokevirtual 42, 3) := by decide +kernel
theorem dL_hints_69 : decode cL_hints 69 = .ok (.if_icmp .ge 45, 3) := by decide +kernel
theorem dL_hints_72 : decode cL_hints 72 = .ok (.iload 6, 2) := by decide +kernel
theorem dL_hints_74 : decode cL_hints 74 = .ok (.aload_n 0, 1) := by decide +kernel
theorem dL_hints_75 : decode cL_hints 75 = .ok (.iconst 0, 1) := by decide +kernel
theorem dL_hints_76 : decode cL_hints 76 = .ok (.invokevirtual 42, 3) := by decide +kernel
theorem dL_hints_79 : decode cL_hints 79 = .ok (.if_icmp .ge 35, 3) := by decide +kernel
theorem dL_hints_82 : decode cL_hints 82 = .ok (.aload_n 0, 1) := by decide +kernel
theorem dL_hints_83 : decode cL_hints 83 = .ok (.iconst 0, 1) := by decide +kernel
theorem dL_hints_84 : decode cL_hints 84 = .ok (.iload 5, 2) := by decide +kernel
theorem dL_hints_86 : decode cL_hints 86 = .ok (.iload 6, 2) := by decide +kernel
theorem dL_hints_88 : decode cL_hints 88 = .ok (.iload_n 3, 1) := by decide +kernel
theorem dL_hints_89 : decode cL_hints 89 = .ok (.bipush 10, 2) := by decide +kernel
theorem dL_hints_91 : decode cL_hints 91 = .ok (.irem, 1) := by decide +kernel
theorem dL_hints_92 : decode cL_hints 92 = .ok (.invokevirtual 26, 3) := by decide +kernel
theorem dL_hints_95 : decode cL_hints 95 = .ok (.ifCond .eq 19, 3) := by decide +kernel
theorem dL_hints_98 : decode cL_hints 98 = .ok (.aload_n 0, 1) := by decide +kernel
theorem dL_hints_99 : decode cL_hints 99 = .ok (.iload_n 1, 1) := by decide +kernel
theorem dL_hints_100 : decode cL_hints 100 = .ok (.invokevirtual 54, 3) := by decide +kernel
theorem dL_hints_103 : decode cL_hints 103 = .ok (.iload_n 2, 1) := by decide +kernel
theorem dL_hints_104 : decode cL_hints 104 = .ok (.iload 4, 2) := by decide +kernel
theorem dL_hints_106 : decode cL_hints 106 = .ok (.iadd, 1) := by decide +kernel
theorem dL_hints_107 : decode cL_hints 107 = .ok (.if_icmp .ne 7, 3) := by decide +kernel
theorem dL_hints_110 : decode cL_hints 110 = .ok (.iconst 1, 1) := by decide +kernel
theorem dL_hints_111 : decode cL_hints 111 = .ok (.goto 4, 3) := by decide +kernel
theorem dL_hints_114 : decode cL_hints 114 = .ok (.iconst 0, 1) := by decide +kernel
theorem dL_hints_115 : decode cL_hints 115 = .ok (.istore 7, 2) := by decide +kernel
theorem dL_hints_117 : decode cL_hints 117 = .ok (.iload 7, 2) := by decide +kernel
theorem dL_hints_119 : decode cL_hints 119 = .ok (.ifCond .eq 41, 3) := by decide +kernel
theorem dL_hints_122 : decode cL_hints 122 = .ok (.aload_n 0, 1) := by decide +kernel
theorem dL_hints_123 : decode cL_hints 123 = .ok (.iload_n 1, 1) := by decide +kernel
theorem dL_hints_124 : decode cL_hints 124 = .ok (.invokevirtual 73, 3) := by decide +kernel
theorem dL_hints_127 : decode cL_hints 127 = .ok (.iload_n 3, 1) := by decide +kernel
theorem dL_hints_128 : decode cL_hints 128 = .ok (.if_icmp .eq 32, 3) := by decide +kernel
theorem dL_hints_131 : decode cL_hints 131 = .ok (.aload_n 0, 1) := by decide +kernel
theorem dL_hints_132 : decode cL_hints 132 = .ok (.iconst 0, 1) := by decide +kernel
theorem dL_hints_133 : decode cL_hints 133 = .ok (.iload 5, 2) := by decide +kernel
theorem dL_hints_135 : decode cL_hints 135 = .ok (.iload 6, 2) := by decide +kernel
theorem dL_hints_137 : decode cL_hints 137 = .ok (.iload_n 3, 1) := by decide +kernel
theorem dL_hints_138 : decode cL_hints 138 = .ok (.bipush 10, 2) := by decide +kernel
theorem dL_hints_140 : decode cL_hints 140 = .ok (.irem, 1) := by decide +kernel
theorem dL_hints_141 : decode cL_hints 141 = .ok (.invokevirtual 26, 3) := by decide +kernel
theorem dL_hints_144 : decode cL_hints 144 = .ok (.ifCond .ne 16, 3) := by decide +kernel
theorem dL_hints_147 : decode cL_hints 147 = .ok (.aload_n 0, 1) := by decide +kernel
theorem dL_hints_148 : decode cL_hints 148 = .ok (.iload_n 1, 1) := by decide +kernel
theorem dL_hints_149 : decode cL_hints 149 = .ok (.invokevirtual 54, 3) := by decide +kernel
theorem dL_hints_152 : decode cL_hints 152 = .ok (.iload_n 2, 1) := by decide +kernel
theorem dL_hints_153 : decode cL_hints 153 = .ok (.if_icmp .ne 7, 3) := by decide +kernel
theorem dL_hints_156 : decode cL_hints 156 = .ok (.iconst 1, 1) := by decide +kernel
theorem dL_hints_157 : decode cL_hints 157 = .ok (.goto 4, 3) := by decide +kernel
theorem dL_hints_160 : decode cL_hints 160 = .ok (.iconst 0, 1) := by decide +kernel
theorem dL_hints_161 : decode cL_hints 161 = .ok (.istore 7, 2) := by decide +kernel
theorem dL_hints_163 : decode cL_hints 163 = .ok (.iload 7, 2) := by decide +kernel
theorem dL_hints_165 : decode cL_hints 165 = .ok (.ifCond .eq 16, 3) := by decide +kernel
theorem dL_hints_168 : decode cL_hints 168 = .ok (.aload_n 0, 1) := by decide +kernel
theorem dL_hints_169 : decode cL_hints 169 = .ok (.iload_n 1, 1) := by decide +kernel
theorem dL_hints_170 : decode cL_hints 170 = .ok (.invokevirtual 73, 3) := by decide +kernel
theorem dL_hints_173 : decode cL_hints 173 = .ok (.iload_n 3, 1) := by decide +kernel
theorem dL_hints_174 : decode cL_hints 174 = .ok (.if_icmp .ne 7, 3) := by decide +kernel
theorem dL_hints_177 : decode cL_hints 177 = .ok (.iconst 1, 1) := by decide +kernel
theorem dL_hints_178 : decode cL_hints 178 = .ok (.goto 4, 3) := by decide +kernel
theorem dL_hints_181 : decode cL_hints 181 = .ok (.iconst 0, 1) := by decide +kernel
theorem dL_hints_182 : decode cL_hints 182 = .ok (.ireturn, 1) := by decide +kernel
