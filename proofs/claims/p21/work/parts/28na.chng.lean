theorem dL_changes_0 : decode cL_changes 0 = .ok (.aload_n 0, 1) := by decide +kernel
theorem dL_changes_1 : decode cL_changes 1 = .ok (.invokestatic 88, 3) := by decide +kernel
theorem dL_changes_4 : decode cL_changes 4 = .ok (.lstore_n 3, 1) := by decide +kernel
theorem dL_changes_5 : decode cL_changes 5 = .ok (.iload_n 2, 1) := by decide +kernel
theorem dL_changes_6 : decode cL_changes 6 = .ok (.ifCond .eq 14, 3) := by decide +kernel
theorem dL_changes_9 : decode cL_changes 9 = .ok (.iload_n 1, 1) := by decide +kernel
theorem dL_changes_10 : decode cL_changes 10 = .ok (.bipush 6, 2) := by decide +kernel
theorem dL_changes_12 : decode cL_changes 12 = .ok (.invokestatic 92, 3) := by decide +kernel
theorem dL_changes_15 : decode cL_changes 15 = .ok (.iconst 1, 1) := by decide +kernel
theorem dL_changes_16 : decode cL_changes 16 = .ok (.isub, 1) := by decide +kernel
theorem dL_changes_17 : decode cL_changes 17 = .ok (.goto 8, 3) := by decide +kernel
theorem dL_changes_20 : decode cL_changes 20 = .ok (.iload_n 1, 1) := by decide +kernel
theorem dL_changes_21 : decode cL_changes 21 = .ok (.iconst 3, 1) := by decide +kernel
theorem dL_changes_22 : decode cL_changes 22 = .ok (.invokestatic 92, 3) := by decide +kernel
theorem dL_changes_25 : decode cL_changes 25 = .ok (.istore 5, 2) := by decide +kernel
theorem dL_changes_27 : decode cL_changes 27 = .ok (.iload 5, 2) := by decide +kernel
theorem dL_changes_29 : decode cL_changes 29 = .ok (.ifCond .lt 9, 3) := by decide +kernel
theorem dL_changes_32 : decode cL_changes 32 = .ok (.iload 5, 2) := by decide +kernel
theorem dL_changes_34 : decode cL_changes 34 = .ok (.iconst 3, 1) := by decide +kernel
theorem dL_changes_35 : decode cL_changes 35 = .ok (.if_icmp .le 7, 3) := by decide +kernel
theorem dL_changes_38 : decode cL_changes 38 = .ok (.iconst 1, 1) := by decide +kernel
theorem dL_changes_39 : decode cL_changes 39 = .ok (.goto 4, 3) := by decide +kernel
theorem dL_changes_42 : decode cL_changes 42 = .ok (.iconst 0, 1) := by decide +kernel
theorem dL_changes_43 : decode cL_changes 43 = .ok (.istore 6, 2) := by decide +kernel
theorem dL_changes_45 : decode cL_changes 45 = .ok (.iload 6, 2) := by decide +kernel
theorem dL_changes_47 : decode cL_changes 47 = .ok (.ifCond .eq 7, 3) := by decide +kernel
theorem dL_changes_50 : decode cL_changes 50 = .ok (.iconst 0, 1) := by decide +kernel
theorem dL_changes_51 : decode cL_changes 51 = .ok (.goto 9, 3) := by decide +kernel
theorem dL_changes_54 : decode cL_changes 54 = .ok (.aload_n 0, 1) := by decide +kernel
theorem dL_changes_55 : decode cL_changes 55 = .ok (.iload 5, 2) := by decide +kernel
theorem dL_changes_57 : decode cL_changes 57 = .ok (.invokevirtual 42, 3) := by decide +kernel
theorem dL_changes_60 : decode cL_changes 60 = .ok (.istore 7, 2) := by decide +kernel
theorem dL_changes_62 : decode cL_changes 62 = .ok (.iload 6, 2) := by decide +kernel
theorem dL_changes_64 : decode cL_changes 64 = .ok (.ifCond .eq 7, 3) := by decide +kernel
theorem dL_changes_67 : decode cL_changes 67 = .ok (.iconst 0, 1) := by decide +kernel
theorem dL_changes_68 : decode cL_changes 68 = .ok (.goto 9, 3) := by decide +kernel
theorem dL_changes_71 : decode cL_changes 71 = .ok (.aload_n 0, 1) := by decide +kernel
theorem dL_changes_72 : decode cL_changes 72 = .ok (.iload 5, 2) := by decide +kernel
theorem dL_changes_74 : decode cL_changes 74 = .ok (.invokevirtual 45, 3) := by decide +kernel
theorem dL_changes_77 : decode cL_changes 77 = .ok (.istore 8, 2) := by decide +kernel
theorem dL_changes_79 : decode cL_changes 79 = .ok (.iload_n 1, 1) := by decide +kernel
theorem dL_changes_80 : decode cL_changes 80 = .ok (.iconst 3, 1) := by decide +kernel
theorem dL_changes_81 : decode cL_changes 81 = .ok (.ishr, 1) := by decide +kernel
theorem dL_changes_82 : decode cL_changes 82 = .ok (.bipush 16, 2) := by decide +kernel
theorem dL_changes_84 : decode cL_changes 84 = .ok (.invokestatic 92, 3) := by decide +kernel
theorem dL_changes_87 : decode cL_changes 87 = .ok (.istore 9, 2) := by decide +kernel
theorem dL_changes_89 : decode cL_changes 89 = .ok (.iload 9, 2) := by decide +kernel
theorem dL_changes_91 : decode cL_changes 91 = .ok (.iconst 4, 1) := by decide +kernel
theorem dL_changes_92 : decode cL_changes 92 = .ok (.if_icmp .ge 181, 3) := by decide +kernel
theorem dL_changes_95 : decode cL_changes 95 = .ok (.iload_n 2, 1) := by decide +kernel
theorem dL_changes_96 : decode cL_changes 96 = .ok (.ifCond .eq 17, 3) := by decide +kernel
theorem dL_changes_99 : decode cL_changes 99 = .ok (.iload_n 1, 1) := by decide +kernel
theorem dL_changes_100 : decode cL_changes 100 = .ok (.bipush 7, 2) := by decide +kernel
theorem dL_changes_102 : decode cL_changes 102 = .ok (.ishr, 1) := by decide +kernel
theorem dL_changes_103 : decode cL_changes 103 = .ok (.bipush 34, 2) := by decide +kernel
theorem dL_changes_105 : decode cL_changes 105 = .ok (.invokestatic 92, 3) := by decide +kernel
theorem dL_changes_108 : decode cL_changes 108 = .ok (.iconst 1, 1) := by decide +kernel
theorem dL_changes_109 : decode cL_changes 109 = .ok (.isub, 1) := by decide +kernel
theorem dL_changes_110 : decode cL_changes 110 = .ok (.goto 11, 3) := by decide +kernel
theorem dL_changes_113 : decode cL_changes 113 = .ok (.iload_n 1, 1) := by decide +kernel
theorem dL_changes_114 : decode cL_changes 114 = .ok (.bipush 7, 2) := by decide +kernel
theorem dL_changes_116 : decode cL_changes 116 = .ok (.ishr, 1) := by decide +kernel
theorem dL_changes_117 : decode cL_changes 117 = .ok (.iconst 5, 1) := by decide +kernel
theorem dL_changes_118 : decode cL_changes 118 = .ok (.invokestatic 92, 3) := by decide +kernel
theorem dL_changes_121 : decode cL_changes 121 = .ok (.istore 10, 2) := by decide +kernel
theorem dL_changes_123 : decode cL_changes 123 = .ok (.aload_n 0, 1) := by decide +kernel
theorem dL_changes_124 : decode cL_changes 124 = .ok (.iconst 0, 1) := by decide +kernel
theorem dL_changes_125 : decode cL_changes 125 = .ok (.iload 5, 2) := by decide +kernel
theorem dL_changes_127 : decode cL_changes 127 = .ok (.iload 10, 2) := by decide +kernel
theorem dL_changes_129 : decode cL_changes 129 = .ok (.iconst 0, 1) := by decide +kernel
theorem dL_changes_130 : decode cL_changes 130 = .ok (.iconst 0, 1) := by decide +kernel
theorem dL_changes_131 : decode cL_changes 131 = .ok (.invokestatic 85, 3) := by decide +kernel
theorem dL_changes_134 : decode cL_changes 134 = .ok (.istore 11, 2) := by decide +kernel
theorem dL_changes_136 : decode cL_changes 136 = .ok (.iload 11, 2) := by decide +kernel
theorem dL_changes_138 : decode cL_changes 138 = .ok (.ifCond .ge 60, 3) := by decide +kernel
theorem dL_changes_141 : decode cL_changes 141 = .ok (.aload_n 0, 1) := by decide +kernel
theorem dL_changes_142 : decode cL_changes 142 = .ok (.invokestatic 88, 3) := by decide +kernel
theorem dL_changes_145 : decode cL_changes 145 = .ok (.lload_n 3, 1) := by decide +kernel
theorem dL_changes_146 : decode cL_changes 146 = .ok (.lcmp, 1) := by decide +kernel
theorem dL_changes_147 : decode cL_changes 147 = .ok (.ifCond .ne 49, 3) := by decide +kernel
theorem dL_changes_150 : decode cL_changes 150 = .ok (.iload 11, 2) := by decide +kernel
theorem dL_changes_152 : decode cL_changes 152 = .ok (.iload 6, 2) := by decide +kernel
theorem dL_changes_154 : decode cL_changes 154 = .ok (.ifCond .ne 15, 3) := by decide +kernel
theorem dL_changes_157 : decode cL_changes 157 = .ok (.iload 10, 2) := by decide +kernel
theorem dL_changes_159 : decode cL_changes 159 = .ok (.ifCond .lt 10, 3) := by decide +kernel
theorem dL_changes_162 : decode cL_changes 162 = .ok (.iload 10, 2) := by decide +kernel
theorem dL_changes_164 : decode cL_changes 164 = .ok (.bipush 31, 2) := by decide +kernel
theorem dL_changes_166 : decode cL_changes 166 = .ok (.if_icmp .le 8, 3) := by decide +kernel
theorem dL_changes_169 : decode cL_changes 169 = .ok (.bipush (-111), 2) := by decide +kernel
theorem dL_changes_171 : decode cL_changes 171 = .ok (.goto 5, 3) := by decide +kernel
theorem dL_changes_174 : decode cL_changes 174 = .ok (.bipush (-113), 2) := by decide +kernel
theorem dL_changes_176 : decode cL_changes 176 = .ok (.if_icmp .ne 20, 3) := by decide +kernel
theorem dL_changes_179 : decode cL_changes 179 = .ok (.iload 11, 2) := by decide +kernel
theorem dL_changes_181 : decode cL_changes 181 = .ok (.bipush (-111), 2) := by decide +kernel
theorem dL_changes_183 : decode cL_changes 183 = .ok (.if_icmp .eq 9, 3) := by decide +kernel
theorem dL_changes_186 : decode cL_changes 186 = .ok (.iload 7, 2) := by decide +kernel
theorem dL_changes_188 : decode cL_changes 188 = .ok (.iconst 5, 1) := by decide +kernel
theorem dL_changes_189 : decode cL_changes 189 = .ok (.if_icmp .ne 7, 3) := by decide +kernel
theorem dL_changes_192 : decode cL_changes 192 = .ok (.iconst 1, 1) := by decide +kernel
theorem dL_changes_193 : decode cL_changes 193 = .ok (.goto 4, 3) := by decide +kernel
theorem dL_changes_196 : decode cL_changes 196 = .ok (.iconst 0, 1) := by decide +kernel
theorem dL_changes_197 : decode cL_changes 197 = .ok (.ireturn, 1) := by decide +kernel
theorem dL_changes_198 : decode cL_changes 198 = .ok (.iload 11, 2) := by decide +kernel
theorem dL_changes_200 : decode cL_changes 200 = .ok (.iload 7, 2) := by decide +kernel
theorem dL_changes_202 : decode cL_changes 202 = .ok (.if_icmp .ne 69, 3) := by decide +kernel
theorem dL_changes_205 : decode cL_changes 205 = .ok (.aload_n 0, 1) := by decide +kernel
theorem dL_changes_206 : decode cL_changes 206 = .ok (.iload 5, 2) := by decide +kernel
theorem dL_changes_208 : decode cL_changes 208 = .ok (.invokevirtual 42, 3) := by decide +kernel
theorem dL_changes_211 : decode cL_changes 211 = .ok (.iload 7, 2) := by decide +kernel
theorem dL_changes_213 : decode cL_changes 213 = .ok (.iconst 1, 1) := by decide +kernel
theorem dL_changes_214 : decode cL_changes 214 = .ok (.iadd, 1) := by decide +kernel
theorem dL_changes_215 : decode cL_changes 215 = .ok (.if_icmp .ne 56, 3) := by decide +kernel
theorem dL_changes_218 : decode cL_changes 218 = .ok (.aload_n 0, 1) := by decide +kernel
theorem dL_changes_219 : decode cL_changes 219 = .ok (.iload 5, 2) := by decide +kernel
theorem dL_changes_221 : decode cL_changes 221 = .ok (.invokevirtual 45, 3) := by decide +kernel
theorem dL_changes_224 : decode cL_changes 224 = .ok (.iload 8, 2) := by decide +kernel
theorem dL_changes_226 : decode cL_changes 226 = .ok (.if_icmp .ne 45, 3) := by decide +kernel
theorem dL_changes_229 : decode cL_changes 229 = .ok (.aload_n 0, 1) := by decide +kernel
theorem dL_changes_230 : decode cL_changes 230 = .ok (.bipush 8, 2) := by decide +kernel
theorem dL_changes_232 : decode cL_changes 232 = .ok (.iload 5, 2) := by decide +kernel
theorem dL_changes_234 : decode cL_changes 234 = .ok (.iload 11, 2) := by decide +kernel
theorem dL_changes_236 : decode cL_changes 236 = .ok (.iload 11, 2) := by decide +kernel
theorem dL_changes_238 : decode cL_changes 238 = .ok (.iconst 0, 1) := by decide +kernel
theorem dL_changes_239 : decode cL_changes 239 = .ok (.invokestatic 85, 3) := by decide +kernel
theorem dL_changes_242 : decode cL_changes 242 = .ok (.bipush (-112), 2) := by decide +kernel
theorem dL_changes_244 : decode cL_changes 244 = .ok (.if_icmp .ne 27, 3) := by decide +kernel
theorem dL_changes_247 : decode cL_changes 247 = .ok (.aload_n 0, 1) := by decide +kernel
theorem dL_changes_248 : decode cL_changes 248 = .ok (.bipush 8, 2) := by decide +kernel
theorem dL_changes_250 : decode cL_changes 250 = .ok (.iload 5, 2) := by decide +kernel
theorem dL_changes_252 : decode cL_changes 252 = .ok (.iload 11, 2) := by decide +kernel
theorem dL_changes_254 : decode cL_changes 254 = .ok (.iload 11, 2) := by decide +kernel
theorem dL_changes_256 : decode cL_changes 256 = .ok (.iconst 1, 1) := by decide +kernel
theorem dL_changes_257 : decode cL_changes 257 = .ok (.iadd, 1) := by decide +kernel
theorem dL_changes_258 : decode cL_changes 258 = .ok (.iconst 0, 1) := by decide +kernel
theorem dL_changes_259 : decode cL_changes 259 = .ok (.invokestatic 85, 3) := by decide +kernel
theorem dL_changes_262 : decode cL_changes 262 = .ok (.bipush (-111), 2) := by decide +kernel
theorem dL_changes_264 : decode cL_changes 264 = .ok (.if_icmp .ne 7, 3) := by decide +kernel
theorem dL_changes_267 : decode cL_changes 267 = .ok (.iconst 1, 1) := by decide +kernel
theorem dL_changes_268 : decode cL_changes 268 = .ok (.goto 4, 3) := by decide +kernel
theorem dL_changes_271 : decode cL_changes 271 = .ok (.iconst 0, 1) := by decide +kernel
theorem dL_changes_272 : decode cL_changes 272 = .ok (.ireturn, 1) := by decide +kernel
theorem dL_changes_273 : decode cL_changes 273 = .ok (.iload 9, 2) := by decide +kernel
theorem dL_changes_275 : decode cL_changes 275 = .ok (.bipush 13, 2) := by decide +kernel
theorem dL_changes_277 : decode cL_changes 277 = .ok (.if_icmp .ge 363, 3) := by decide +kernel
theorem dL_changes_280 : decode cL_changes 280 = .ok (.iload_n 2, 1) := by decide +kernel
theorem dL_changes_281 : decode cL_changes 281 = .ok (.ifCond .eq 17, 3) := by decide +kernel
theorem dL_changes_284 : decode cL_changes 284 = .ok (.iload_n 1, 1) := by decide +kernel
theorem dL_changes_285 : decode cL_changes 285 = .ok (.bipush 7, 2) := by decide +kernel
theorem dL_changes_287 : decode cL_changes 287 = .ok (.ishr, 1) := by decide +kernel
theorem dL_changes_288 : decode cL_changes 288 = .ok (.bipush 7, 2) := by decide +kernel
theorem dL_changes_290 : decode cL_changes 290 = .ok (.invokestatic 92, 3) := by decide +kernel
theorem dL_changes_293 : decode cL_changes 293 = .ok (.iconst 1, 1) := by decide +kernel
theorem dL_changes_294 : decode cL_changes 294 = .ok (.isub, 1) := by decide +kernel
theorem dL_changes_295 : decode cL_changes 295 = .ok (.goto 21, 3) := by decide +kernel
theorem dL_changes_298 : decode cL_changes 298 = .ok (.iload_n 1, 1) := by decide +kernel
theorem dL_changes_299 : decode cL_changes 299 = .ok (.bipush 7, 2) := by decide +kernel
theorem dL_changes_301 : decode cL_changes 301 = .ok (.ishr, 1) := by decide +kernel
theorem dL_changes_302 : decode cL_changes 302 = .ok (.iload 7, 2) := by decide +kernel
theorem dL_changes_304 : decode cL_changes 304 = .ok (.ifCond .ne 7, 3) := by decide +kernel
theorem dL_changes_307 : decode cL_changes 307 = .ok (.iconst 1, 1) := by decide +kernel
