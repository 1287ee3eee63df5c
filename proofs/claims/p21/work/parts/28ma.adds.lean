theorem dL_adds_0 : decode cL_adds 0 = .ok (.aload_n 0, 1) := by decide +kernel
theorem dL_adds_1 : decode cL_adds 1 = .ok (.iload_n 1, 1) := by decide +kernel
theorem dL_adds_2 : decode cL_adds 2 = .ok (.invokevirtual 42, 3) := by decide +kernel
theorem dL_adds_5 : decode cL_adds 5 = .ok (.istore_n 2, 1) := by decide +kernel
theorem dL_adds_6 : decode cL_adds 6 = .ok (.iconst 0, 1) := by decide +kernel
theorem dL_adds_7 : decode cL_adds 7 = .ok (.istore_n 3, 1) := by decide +kernel
theorem dL_adds_8 : decode cL_adds 8 = .ok (.iconst 0, 1) := by decide +kernel
theorem dL_adds_9 : decode cL_adds 9 = .ok (.istore 4, 2) := by decide +kernel
theorem dL_adds_11 : decode cL_adds 11 = .ok (.iconst 1, 1) := by decide +kernel
theorem dL_adds_12 : decode cL_adds 12 = .ok (.istore 5, 2) := by decide +kernel
theorem dL_adds_14 : decode cL_adds 14 = .ok (.iconst 0, 1) := by decide +kernel
theorem dL_adds_15 : decode cL_adds 15 = .ok (.istore 6, 2) := by decide +kernel
theorem dL_adds_17 : decode cL_adds 17 = .ok (.iload 6, 2) := by decide +kernel
theorem dL_adds_19 : decode cL_adds 19 = .ok (.iload_n 2, 1) := by decide +kernel
theorem dL_adds_20 : decode cL_adds 20 = .ok (.iload_n 2, 1) := by decide +kernel
theorem dL_adds_21 : decode cL_adds 21 = .ok (.imul, 1) := by decide +kernel
theorem dL_adds_22 : decode cL_adds 22 = .ok (.iconst 4, 1) := by decide +kernel
theorem dL_adds_23 : decode cL_adds 23 = .ok (.imul, 1) := by decide +kernel
theorem dL_adds_24 : decode cL_adds 24 = .ok (.if_icmp .ge 141, 3) := by decide +kernel
theorem dL_adds_27 : decode cL_adds 27 = .ok (.iload 5, 2) := by decide +kernel
theorem dL_adds_29 : decode cL_adds 29 = .ok (.ifCond .eq 136, 3) := by decide +kernel
theorem dL_adds_32 : decode cL_adds 32 = .ok (.iload 6, 2) := by decide +kernel
theorem dL_adds_34 : decode cL_adds 34 = .ok (.iconst 4, 1) := by decide +kernel
theorem dL_adds_35 : decode cL_adds 35 = .ok (.idiv, 1) := by decide +kernel
theorem dL_adds_36 : decode cL_adds 36 = .ok (.iload_n 2, 1) := by decide +kernel
theorem dL_adds_37 : decode cL_adds 37 = .ok (.idiv, 1) := by decide +kernel
theorem dL_adds_38 : decode cL_adds 38 = .ok (.istore 7, 2) := by decide +kernel
theorem dL_adds_40 : decode cL_adds 40 = .ok (.iload 6, 2) := by decide +kernel
theorem dL_adds_42 : decode cL_adds 42 = .ok (.iconst 4, 1) := by decide +kernel
theorem dL_adds_43 : decode cL_adds 43 = .ok (.idiv, 1) := by decide +kernel
theorem dL_adds_44 : decode cL_adds 44 = .ok (.iload_n 2, 1) := by decide +kernel
theorem dL_adds_45 : decode cL_adds 45 = .ok (.irem, 1) := by decide +kernel
theorem dL_adds_46 : decode cL_adds 46 = .ok (.istore 8, 2) := by decide +kernel
theorem dL_adds_48 : decode cL_adds 48 = .ok (.iload 7, 2) := by decide +kernel
theorem dL_adds_50 : decode cL_adds 50 = .ok (.iload 8, 2) := by decide +kernel
theorem dL_adds_52 : decode cL_adds 52 = .ok (.if_icmp .ne 8, 3) := by decide +kernel
theorem dL_adds_55 : decode cL_adds 55 = .ok (.bipush (-113), 2) := by decide +kernel
theorem dL_adds_57 : decode cL_adds 57 = .ok (.goto 18, 3) := by decide +kernel
theorem dL_adds_60 : decode cL_adds 60 = .ok (.aload_n 0, 1) := by decide +kernel
theorem dL_adds_61 : decode cL_adds 61 = .ok (.bipush 13, 2) := by decide +kernel
theorem dL_adds_63 : decode cL_adds 63 = .ok (.iload_n 1, 1) := by decide +kernel
theorem dL_adds_64 : decode cL_adds 64 = .ok (.iload 7, 2) := by decide +kernel
theorem dL_adds_66 : decode cL_adds 66 = .ok (.iload 8, 2) := by decide +kernel
theorem dL_adds_68 : decode cL_adds 68 = .ok (.iload 6, 2) := by decide +kernel
theorem dL_adds_70 : decode cL_adds 70 = .ok (.iconst 4, 1) := by decide +kernel
theorem dL_adds_71 : decode cL_adds 71 = .ok (.irem, 1) := by decide +kernel
theorem dL_adds_72 : decode cL_adds 72 = .ok (.invokestatic 85, 3) := by decide +kernel
theorem dL_adds_75 : decode cL_adds 75 = .ok (.istore 9, 2) := by decide +kernel
theorem dL_adds_77 : decode cL_adds 77 = .ok (.iload 9, 2) := by decide +kernel
theorem dL_adds_79 : decode cL_adds 79 = .ok (.bipush (-113), 2) := by decide +kernel
theorem dL_adds_81 : decode cL_adds 81 = .ok (.if_icmp .eq 30, 3) := by decide +kernel
theorem dL_adds_84 : decode cL_adds 84 = .ok (.iload 9, 2) := by decide +kernel
theorem dL_adds_86 : decode cL_adds 86 = .ok (.ifCond .lt 29, 3) := by decide +kernel
theorem dL_adds_89 : decode cL_adds 89 = .ok (.iload 9, 2) := by decide +kernel
theorem dL_adds_91 : decode cL_adds 91 = .ok (.iconst 4, 1) := by decide +kernel
theorem dL_adds_92 : decode cL_adds 92 = .ok (.if_icmp .ge 23, 3) := by decide +kernel
theorem dL_adds_95 : decode cL_adds 95 = .ok (.aload_n 0, 1) := by decide +kernel
theorem dL_adds_96 : decode cL_adds 96 = .ok (.iload_n 1, 1) := by decide +kernel
theorem dL_adds_97 : decode cL_adds 97 = .ok (.iload 7, 2) := by decide +kernel
theorem dL_adds_99 : decode cL_adds 99 = .ok (.iload 8, 2) := by decide +kernel
theorem dL_adds_101 : decode cL_adds 101 = .ok (.iload 6, 2) := by decide +kernel
theorem dL_adds_103 : decode cL_adds 103 = .ok (.iconst 4, 1) := by decide +kernel
theorem dL_adds_104 : decode cL_adds 104 = .ok (.irem, 1) := by decide +kernel
theorem dL_adds_105 : decode cL_adds 105 = .ok (.invokevirtual 51, 3) := by decide +kernel
theorem dL_adds_108 : decode cL_adds 108 = .ok (.ifCond .eq 7, 3) := by decide +kernel
theorem dL_adds_111 : decode cL_adds 111 = .ok (.iconst 1, 1) := by decide +kernel
theorem dL_adds_112 : decode cL_adds 112 = .ok (.goto 4, 3) := by decide +kernel
theorem dL_adds_115 : decode cL_adds 115 = .ok (.iconst 0, 1) := by decide +kernel
theorem dL_adds_116 : decode cL_adds 116 = .ok (.istore 5, 2) := by decide +kernel
theorem dL_adds_118 : decode cL_adds 118 = .ok (.iload 4, 2) := by decide +kernel
theorem dL_adds_120 : decode cL_adds 120 = .ok (.iload 9, 2) := by decide +kernel
theorem dL_adds_122 : decode cL_adds 122 = .ok (.bipush (-113), 2) := by decide +kernel
theorem dL_adds_124 : decode cL_adds 124 = .ok (.if_icmp .ne 7, 3) := by decide +kernel
theorem dL_adds_127 : decode cL_adds 127 = .ok (.iconst 0, 1) := by decide +kernel
theorem dL_adds_128 : decode cL_adds 128 = .ok (.goto 4, 3) := by decide +kernel
theorem dL_adds_131 : decode cL_adds 131 = .ok (.iconst 1, 1) := by decide +kernel
theorem dL_adds_132 : decode cL_adds 132 = .ok (.iadd, 1) := by decide +kernel
theorem dL_adds_133 : decode cL_adds 133 = .ok (.istore 4, 2) := by decide +kernel
theorem dL_adds_135 : decode cL_adds 135 = .ok (.iload_n 3, 1) := by decide +kernel
theorem dL_adds_136 : decode cL_adds 136 = .ok (.iload 9, 2) := by decide +kernel
theorem dL_adds_138 : decode cL_adds 138 = .ok (.ifCond .ge 7, 3) := by decide +kernel
theorem dL_adds_141 : decode cL_adds 141 = .ok (.iconst 0, 1) := by decide +kernel
theorem dL_adds_142 : decode cL_adds 142 = .ok (.goto 15, 3) := by decide +kernel
theorem dL_adds_145 : decode cL_adds 145 = .ok (.iload 9, 2) := by decide +kernel
theorem dL_adds_147 : decode cL_adds 147 = .ok (.iconst 3, 1) := by decide +kernel
theorem dL_adds_148 : decode cL_adds 148 = .ok (.if_icmp .ne 7, 3) := by decide +kernel
theorem dL_adds_151 : decode cL_adds 151 = .ok (.iconst 4, 1) := by decide +kernel
theorem dL_adds_152 : decode cL_adds 152 = .ok (.goto 5, 3) := by decide +kernel
theorem dL_adds_155 : decode cL_adds 155 = .ok (.iload 9, 2) := by decide +kernel
theorem dL_adds_157 : decode cL_adds 157 = .ok (.iadd, 1) := by decide +kernel
theorem dL_adds_158 : decode cL_adds 158 = .ok (.istore_n 3, 1) := by decide +kernel
theorem dL_adds_159 : decode cL_adds 159 = .ok (.iinc 6 1, 3) := by decide +kernel
theorem dL_adds_162 : decode cL_adds 162 = .ok (.goto (-145), 3) := by decide +kernel
theorem dL_adds_165 : decode cL_adds 165 = .ok (.aload_n 0, 1) := by decide +kernel
theorem dL_adds_166 : decode cL_adds 166 = .ok (.iload_n 1, 1) := by decide +kernel
theorem dL_adds_167 : decode cL_adds 167 = .ok (.invokevirtual 54, 3) := by decide +kernel
theorem dL_adds_170 : decode cL_adds 170 = .ok (.istore 6, 2) := by decide +kernel
theorem dL_adds_172 : decode cL_adds 172 = .ok (.iload 5, 2) := by decide +kernel
theorem dL_adds_174 : decode cL_adds 174 = .ok (.ifCond .eq 70, 3) := by decide +kernel
theorem dL_adds_177 : decode cL_adds 177 = .ok (.iload 4, 2) := by decide +kernel
theorem dL_adds_179 : decode cL_adds 179 = .ok (.aload_n 0, 1) := by decide +kernel
theorem dL_adds_180 : decode cL_adds 180 = .ok (.iload_n 1, 1) := by decide +kernel
theorem dL_adds_181 : decode cL_adds 181 = .ok (.invokevirtual 45, 3) := by decide +kernel
theorem dL_adds_184 : decode cL_adds 184 = .ok (.if_icmp .ne 60, 3) := by decide +kernel
theorem dL_adds_187 : decode cL_adds 187 = .ok (.iload_n 3, 1) := by decide +kernel
theorem dL_adds_188 : decode cL_adds 188 = .ok (.iload 6, 2) := by decide +kernel
theorem dL_adds_190 : decode cL_adds 190 = .ok (.if_icmp .ne 54, 3) := by decide +kernel
theorem dL_adds_193 : decode cL_adds 193 = .ok (.aload_n 0, 1) := by decide +kernel
theorem dL_adds_194 : decode cL_adds 194 = .ok (.iload_n 1, 1) := by decide +kernel
theorem dL_adds_195 : decode cL_adds 195 = .ok (.invokevirtual 57, 3) := by decide +kernel
theorem dL_adds_198 : decode cL_adds 198 = .ok (.iload 6, 2) := by decide +kernel
theorem dL_adds_200 : decode cL_adds 200 = .ok (.if_icmp .ne 44, 3) := by decide +kernel
theorem dL_adds_203 : decode cL_adds 203 = .ok (.aload_n 0, 1) := by decide +kernel
theorem dL_adds_204 : decode cL_adds 204 = .ok (.iload_n 1, 1) := by decide +kernel
theorem dL_adds_205 : decode cL_adds 205 = .ok (.invokevirtual 60, 3) := by decide +kernel
theorem dL_adds_208 : decode cL_adds 208 = .ok (.iload 4, 2) := by decide +kernel
theorem dL_adds_210 : decode cL_adds 210 = .ok (.ifCond .ne 7, 3) := by decide +kernel
theorem dL_adds_213 : decode cL_adds 213 = .ok (.iconst 0, 1) := by decide +kernel
theorem dL_adds_214 : decode cL_adds 214 = .ok (.goto 13, 3) := by decide +kernel
theorem dL_adds_217 : decode cL_adds 217 = .ok (.bipush 100, 2) := by decide +kernel
theorem dL_adds_219 : decode cL_adds 219 = .ok (.iload 6, 2) := by decide +kernel
theorem dL_adds_221 : decode cL_adds 221 = .ok (.imul, 1) := by decide +kernel
theorem dL_adds_222 : decode cL_adds 222 = .ok (.iconst 4, 1) := by decide +kernel
theorem dL_adds_223 : decode cL_adds 223 = .ok (.iload 4, 2) := by decide +kernel
theorem dL_adds_225 : decode cL_adds 225 = .ok (.imul, 1) := by decide +kernel
theorem dL_adds_226 : decode cL_adds 226 = .ok (.idiv, 1) := by decide +kernel
theorem dL_adds_227 : decode cL_adds 227 = .ok (.if_icmp .ne 17, 3) := by decide +kernel
theorem dL_adds_230 : decode cL_adds 230 = .ok (.aload_n 0, 1) := by decide +kernel
theorem dL_adds_231 : decode cL_adds 231 = .ok (.iload_n 1, 1) := by decide +kernel
theorem dL_adds_232 : decode cL_adds 232 = .ok (.invokevirtual 48, 3) := by decide +kernel
theorem dL_adds_235 : decode cL_adds 235 = .ok (.iload 4, 2) := by decide +kernel
theorem dL_adds_237 : decode cL_adds 237 = .ok (.if_icmp .lt 7, 3) := by decide +kernel
theorem dL_adds_240 : decode cL_adds 240 = .ok (.iconst 1, 1) := by decide +kernel
theorem dL_adds_241 : decode cL_adds 241 = .ok (.goto 4, 3) := by decide +kernel
theorem dL_adds_244 : decode cL_adds 244 = .ok (.iconst 0, 1) := by decide +kernel
theorem dL_adds_245 : decode cL_adds 245 = .ok (.istore 5, 2) := by decide +kernel
theorem dL_adds_247 : decode cL_adds 247 = .ok (.iconst 0, 1) := by decide +kernel
theorem dL_adds_248 : decode cL_adds 248 = .ok (.istore 7, 2) := by decide +kernel
theorem dL_adds_250 : decode cL_adds 250 = .ok (.iconst 0, 1) := by decide +kernel
theorem dL_adds_251 : decode cL_adds 251 = .ok (.istore 8, 2) := by decide +kernel
theorem dL_adds_253 : decode cL_adds 253 = .ok (.iconst 0, 1) := by decide +kernel
theorem dL_adds_254 : decode cL_adds 254 = .ok (.istore 9, 2) := by decide +kernel
theorem dL_adds_256 : decode cL_adds 256 = .ok (.iload 9, 2) := by decide +kernel
theorem dL_adds_258 : decode cL_adds 258 = .ok (.aload_n 0, 1) := by decide +kernel
theorem dL_adds_259 : decode cL_adds 259 = .ok (.iconst 0, 1) := by decide +kernel
theorem dL_adds_260 : decode cL_adds 260 = .ok (.invokevirtual 42, 3) := by decide +kernel
theorem dL_adds_263 : decode cL_adds 263 = .ok (.if_icmp .ge 90, 3) := by decide +kernel
theorem dL_adds_266 : decode cL_adds 266 = .ok (.iload 5, 2) := by decide +kernel
theorem dL_adds_268 : decode cL_adds 268 = .ok (.ifCond .eq 85, 3) := by decide +kernel
theorem dL_adds_271 : decode cL_adds 271 = .ok (.aload_n 0, 1) := by decide +kernel
theorem dL_adds_272 : decode cL_adds 272 = .ok (.iload_n 1, 1) := by decide +kernel
theorem dL_adds_273 : decode cL_adds 273 = .ok (.iload 9, 2) := by decide +kernel
theorem dL_adds_275 : decode cL_adds 275 = .ok (.invokevirtual 63, 3) := by decide +kernel
theorem dL_adds_278 : decode cL_adds 278 = .ok (.istore 10, 2) := by decide +kernel
theorem dL_adds_280 : decode cL_adds 280 = .ok (.iload 10, 2) := by decide +kernel
theorem dL_adds_282 : decode cL_adds 282 = .ok (.iconst (-1), 1) := by decide +kernel
theorem dL_adds_283 : decode cL_adds 283 = .ok (.if_icmp .eq 24, 3) := by decide +kernel
theorem dL_adds_286 : decode cL_adds 286 = .ok (.iload 10, 2) := by decide +kernel
theorem dL_adds_288 : decode cL_adds 288 = .ok (.ifCond .lt 23, 3) := by decide +kernel
theorem dL_adds_291 : decode cL_adds 291 = .ok (.iload 10, 2) := by decide +kernel
theorem dL_adds_293 : decode cL_adds 293 = .ok (.iload_n 2, 1) := by decide +kernel
theorem dL_adds_294 : decode cL_adds 294 = .ok (.if_icmp .ge 17, 3) := by decide +kernel
theorem dL_adds_297 : decode cL_adds 297 = .ok (.iload 8, 2) := by decide +kernel
theorem dL_adds_299 : decode cL_adds 299 = .ok (.iload 10, 2) := by decide +kernel
theorem dL_adds_301 : decode cL_adds 301 = .ok (.ishr, 1) := by decide +kernel
theorem dL_adds_302 : decode cL_adds 302 = .ok (.iconst 1, 1) := by decide +kernel
theorem dL_adds_303 : decode cL_adds 303 = .ok (.iand, 1) := by decide +kernel
theorem dL_adds_304 : decode cL_adds 304 = .ok (.ifCond .ne 7, 3) := by decide +kernel
theorem dL_adds_307 : decode cL_adds 307 = .ok (.iconst 1, 1) := by decide +kernel
theorem dL_adds_308 : decode cL_adds 308 = .ok (.goto 4, 3) := by decide +kernel
theorem dL_adds_311 : decode cL_adds 311 = .ok (.iconst 0, 1) := by decide +kernel
theorem dL_adds_312 : decode cL_adds 312 = .ok (.istore 5, 2) := by decide +kernel
theorem dL_adds_314 : decode cL_adds 314 = .ok (.iload 8, 2) := by decide +kernel
theorem dL_adds_316 : decode cL_adds 316 = .ok (.iload 10, 2) := by decide +kernel
theorem dL_adds_318 : decode cL_adds 318 = .ok (.ifCond .ge 7, 3) := by decide +kernel
theorem dL_adds_321 : decode cL_adds 321 = .ok (.iconst 0, 1) := by decide +kernel
theorem dL_adds_322 : decode cL_adds 322 = .ok (.goto 7, 3) := by decide +kernel
theorem dL_adds_325 : decode cL_adds 325 = .ok (.iconst 1, 1) := by decide +kernel
theorem dL_adds_326 : decode cL_adds 326 = .ok (.iload 10, 2) := by decide +kernel
theorem dL_adds_328 : decode cL_adds 328 = .ok (.ishl, 1) := by decide +kernel
theorem dL_adds_329 : decode cL_adds 329 = .ok (.ior, 1) := by decide +kernel
theorem dL_adds_330 : decode cL_adds 330 = .ok (.istore 8, 2) := by decide +kernel
theorem dL_adds_332 : decode cL_adds 332 = .ok (.iload 7, 2) := by decide +kernel
theorem dL_adds_334 : decode cL_adds 334 = .ok (.iload 10, 2) := by decide +kernel
theorem dL_adds_336 : decode cL_adds 336 = .ok (.ifCond .ge 7, 3) := by decide +kernel
theorem dL_adds_339 : decode cL_adds 339 = .ok (.iconst 0, 1) := by decide +kernel
theorem dL_adds_340 : decode cL_adds 340 = .ok (.goto 4, 3) := by decide +kernel
theorem dL_adds_343 : decode cL_adds 343 = .ok (.iconst 1, 1) := by decide +kernel
theorem dL_adds_344 : decode cL_adds 344 = .ok (.iadd, 1) := by decide +kernel
theorem dL_adds_345 : decode cL_adds 345 = .ok (.istore 7, 2) := by decide +kernel
theorem dL_adds_347 : decode cL_adds 347 = .ok (.iinc 9 1, 3) := by decide +kernel
theorem dL_adds_350 : decode cL_adds 350 = .ok (.goto (-94), 3) := by decide +kernel
theorem dL_adds_353 : decode cL_adds 353 = .ok (.iload 5, 2) := by decide +kernel
theorem dL_adds_355 : decode cL_adds 355 = .ok (.ifCond .eq 53, 3) := by decide +kernel
theorem dL_adds_358 : decode cL_adds 358 = .ok (.aload_n 0, 1) := by decide +kernel
theorem dL_adds_359 : decode cL_adds 359 = .ok (.iload_n 1, 1) := by decide +kernel
theorem dL_adds_360 : decode cL_adds 360 = .ok (.invokevirtual 70, 3) := by decide +kernel
theorem dL_adds_363 : decode cL_adds 363 = .ok (.iload_n 2, 1) := by decide +kernel
theorem dL_adds_364 : decode cL_adds 364 = .ok (.iload 7, 2) := by decide +kernel
theorem dL_adds_366 : decode cL_adds 366 = .ok (.isub, 1) := by decide +kernel
theorem dL_adds_367 : decode cL_adds 367 = .ok (.if_icmp .ne 41, 3) := by decide +kernel
theorem dL_adds_370 : decode cL_adds 370 = .ok (.aload_n 0, 1) := by decide +kernel
theorem dL_adds_371 : decode cL_adds 371 = .ok (.bipush 12, 2) := by decide +kernel
theorem dL_adds_373 : decode cL_adds 373 = .ok (.iload_n 1, 1) := by decide +kernel
theorem dL_adds_374 : decode cL_adds 374 = .ok (.aload_n 0, 1) := by decide +kernel
theorem dL_adds_375 : decode cL_adds 375 = .ok (.iconst 0, 1) := by decide +kernel
theorem dL_adds_376 : decode cL_adds 376 = .ok (.invokevirtual 42, 3) := by decide +kernel
theorem dL_adds_379 : decode cL_adds 379 = .ok (.iconst 0, 1) := by decide +kernel
theorem dL_adds_380 : decode cL_adds 380 = .ok (.iconst 0, 1) := by decide +kernel
theorem dL_adds_381 : decode cL_adds 381 = .ok (.invokestatic 85, 3) := by decide +kernel
theorem dL_adds_384 : decode cL_adds 384 = .ok (.bipush (-111), 2) := by decide +kernel
theorem dL_adds_386 : decode cL_adds 386 = .ok (.if_icmp .ne 22, 3) := by decide +kernel
theorem dL_adds_389 : decode cL_adds 389 = .ok (.aload_n 0, 1) := by decide +kernel
theorem dL_adds_390 : decode cL_adds 390 = .ok (.bipush 13, 2) := by decide +kernel
theorem dL_adds_392 : decode cL_adds 392 = .ok (.iload_n 1, 1) := by decide +kernel
theorem dL_adds_393 : decode cL_adds 393 = .ok (.iconst 0, 1) := by decide +kernel
theorem dL_adds_394 : decode cL_adds 394 = .ok (.iload_n 2, 1) := by decide +kernel
theorem dL_adds_395 : decode cL_adds 395 = .ok (.iconst 0, 1) := by decide +kernel
theorem dL_adds_396 : decode cL_adds 396 = .ok (.invokestatic 85, 3) := by decide +kernel
theorem dL_adds_399 : decode cL_adds 399 = .ok (.bipush (-111), 2) := by decide +kernel
theorem dL_adds_401 : decode cL_adds 401 = .ok (.if_icmp .ne 7, 3) := by decide +kernel
theorem dL_adds_404 : decode cL_adds 404 = .ok (.iconst 1, 1) := by decide +kernel
theorem dL_adds_405 : decode cL_adds 405 = .ok (.goto 4, 3) := by decide +kernel
theorem dL_adds_408 : decode cL_adds 408 = .ok (.iconst 0, 1) := by decide +kernel
theorem dL_adds_409 : decode cL_adds 409 = .ok (.ireturn, 1) := by decide +kernel
