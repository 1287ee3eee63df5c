theorem dL_changes_16 : decode cL_changes 16 = .ok (.isub, 1) := by decide +kernel
theorem dL_changes_17 : decode cL_changes 17 = .ok (.goto 8, 3) := by decide +kernel
theorem dL_changes_20 : decode cL_changes 20 = .ok (.iload_n 1, 1) := by decide +kernel
theorem dL_changes_21 : decode cL_changes 21 = .ok (.iconst 3, 1) := by decide +kernel
theorem dL_changes_22 : decode cL_changes 22 = .ok (.invokestatic 92, 3) := by decide +kernel
theorem dL_changes_25 : decode cL_changes 25 = .ok (.istore 5, 2) := by decide +kernel
theorem dL_changes_27 : decode cL_changes 27 = .ok (.iload 5, 2) := by decide +kernel
theorem dL_changes_29 : decode cL_changes 29 = .ok (.ifCond .lt 9, 3) := by decide +kernel
theorem dL_changes_32 : decode cL_changes 32 = .ok (.iload 5, 2) := by decide +kernel
theorem dL_changes_34 : decode cL_changes 34 = .ok (.iconst 3, 1) := by decide +kernel
theorem dL_changes_35 : decode cL_changes 35 = .ok (.if_icmp .le 7, 3) := by decide +kernel
theorem dL_changes_38 : decode cL_changes 38 = .ok (.iconst 1, 1) := by decide +kernel
theorem dL_changes_39 : decode cL_changes 39 = .ok (.goto 4, 3) := by decide +kernel
theorem dL_changes_42 : decode cL_changes 42 = .ok (.iconst 0, 1) := by decide +kernel
theorem dL_changes_43 : decode cL_changes 43 = .ok (.istore 6, 2) := by decide +kernel
theorem dL_changes_45 : decode cL_changes 45 = .ok (.iload 6, 2) := by decide +kernel
theorem dL_changes_47 : decode cL_changes 47 = .ok (.ifCond .eq 7, 3) := by decide +kernel
theorem dL_changes_50 : decode cL_changes 50 = .ok (.iconst 0, 1) := by decide +kernel
theorem dL_changes_51 : decode cL_changes 51 = .ok (.goto 9, 3) := by decide +kernel
theorem dL_changes_54 : decode cL_changes 54 = .ok (.aload_n 0, 1) := by decide +kernel
theorem dL_changes_55 : decode cL_changes 55 = .ok (.iload 5, 2) := by decide +kernel
theorem dL_changes_57 : decode cL_changes 57 = .ok (.invokevirtual 42, 3) := by decide +kernel
theorem dL_changes_60 : decode cL_changes 60 = .ok (.istore 7, 2) := by decide +kernel
theorem dL_changes_62 : decode cL_changes 62 = .ok (.iload 6, 2) := by decide +kernel
theorem dL_changes_64 : decode cL_changes 64 = .ok (.ifCond .eq 7, 3) := by decide +kernel
theorem dL_changes_67 : decode cL_changes 67 = .ok (.iconst 0, 1) := by decide +kernel
theorem dL_changes_68 : decode cL_changes 68 = .ok (.goto 9, 3) := by decide +kernel
theorem dL_changes_71 : decode cL_changes 71 = .ok (.aload_n 0, 1) := by decide +kernel
theorem dL_changes_72 : decode cL_changes 72 = .ok (.iload 5, 2) := by decide +kernel
theorem dL_changes_74 : decode cL_changes 74 = .ok (.invokevirtual 45, 3) := by decide +kernel
theorem dL_changes_77 : decode cL_changes 77 = .ok (.istore 8, 2) := by decide +kernel
theorem dL_changes_79 : decode cL_changes 79 = .ok (.iload_n 1, 1) := by decide +kernel
theorem dL_changes_80 : decode cL_changes 80 = .ok (.iconst 3, 1) := by decide +kernel
theorem dL_changes_81 : decode cL_changes 81 = .ok (.ishr, 1) := by decide +kernel
theorem dL_changes_82 : decode cL_changes 82 = .ok (.bipush 16, 2) := by decide +kernel
theorem dL_changes_84 : decode cL_changes 84 = .ok (.invokestatic 92, 3) := by decide +kernel
theorem dL_changes_87 : decode cL_changes 87 = .ok (.istore 9, 2) := by decide +kernel
theorem dL_changes_89 : decode cL_changes 89 = .ok (.iload 9, 2) := by decide +kernel
theorem dL_changes_91 : decode cL_changes 91 = .ok (.iconst 4, 1) := by decide +kernel
theorem dL_changes_92 : decode cL_changes 92 = .ok (.if_icmp .ge 181, 3) := by decide +kernel
theorem dL_changes_95 : decode cL_changes 95 = .ok (.iload_n 2, 1) := by decide +kernel
theorem dL_changes_96 : decode cL_changes 96 = .ok (.ifCond .eq 17, 3) := by decide +kernel
theorem dL_changes_99 : decode cL_changes 99 = .ok (.iload_n 1, 1) := by decide +kernel
theorem dL_changes_100 : decode cL_changes 100 = .ok (.bipush 7, 2) := by decide +kernel
theorem dL_changes_102 : decode cL_changes 102 = .ok (.ishr, 1) := by decide +kernel
theorem dL_changes_103 : decode cL_changes 103 = .ok (.bipush 34, 2) := by decide +kernel
theorem dL_changes_105 : decode cL_changes 105 = .ok (.invokestatic 92, 3) := by decide +kernel
theorem dL_changes_108 : decode cL_changes 108 = .ok (.iconst 1, 1) := by decide +kernel
theorem dL_changes_109 : decode cL_changes 109 = .ok (.isub, 1) := by decide +kernel
theorem dL_changes_110 : decode cL_changes 110 = .ok (.goto 11, 3) := by decide +kernel
theorem dL_changes_113 : decode cL_changes 113 = .ok (.iload_n 1, 1) := by decide +kernel
theorem dL_changes_114 : decode cL_changes 114 = .ok (.bipush 7, 2) := by decide +kernel
theorem dL_changes_116 : decode cL_changes 116 = .ok (.ishr, 1) := by decide +kernel
theorem dL_changes_117 : decode cL_changes 117 = .ok (.iconst 5, 1) := by decide +kernel
theorem dL_changes_118 : decode cL_changes 118 = .ok (.invokestatic 92, 3) := by decide +kernel
theorem dL_changes_121 : decode cL_changes 121 = .ok (.istore 10, 2) := by decide +kernel
theorem dL_changes_123 : decode cL_changes 123 = .ok (.aload_n 0, 1) := by decide +kernel
theorem dL_changes_124 : decode cL_changes 124 = .ok (.iconst 0, 1) := by decide +kernel
theorem dL_changes_125 : decode cL_changes 125 = .ok (.iload 5, 2) := by decide +kernel
theorem dL_changes_127 : decode cL_changes 127 = .ok (.iload 10, 2) := by decide +kernel
theorem dL_changes_129 : decode cL_changes 129 = .ok (.iconst 0, 1) := by decide +kernel
theorem dL_changes_130 : decode cL_changes 130 = .ok (.iconst 0, 1) := by decide +kernel
theorem dL_changes_131 : decode cL_changes 131 = .ok (.invokestatic 85, 3) := by decide +kernel
theorem dL_changes_134 : decode cL_changes 134 = .ok (.istore 11, 2) := by decide +kernel
theorem dL_changes_136 : decode cL_changes 136 = .ok (.iload 11, 2) := by decide +kernel
theorem dL_changes_138 : decode cL_changes 138 = .ok (.ifCond .ge 60, 3) := by decide +kernel
theorem dL_changes_141 : decode cL_changes 141 = .ok (.aload_n 0, 1) := by decide +kernel
theorem dL_changes_142 : decode cL_changes 142 = .ok (.invokestatic 88, 3) := by decide +kernel
theorem dL_changes_145 : decode cL_changes 145 = .ok (.lload_n 3, 1) := by decide +kernel
theorem dL_changes_146 : decode cL_changes 146 = .ok (.lcmp, 1) := by decide +kernel
theorem dL_changes_147 : decode cL_changes 147 = .ok (.ifCond .ne 49, 3) := by decide +kernel
theorem dL_changes_150 : decode cL_changes 150 = .ok (.iload 11, 2) := by decide +kernel
theorem dL_changes_152 : decode cL_changes 152 = .ok (.iload 6, 2) := by decide +kernel
theorem dL_changes_154 : decode cL_changes 154 = .ok (.ifCond .ne 15, 3) := by decide +kernel
theorem dL_changes_157 : decode cL_changes 157 = .ok (.iload 10, 2) := by decide +kernel
theorem dL_changes_159 : decode cL_changes 159 = .ok (.ifCond .lt 10, 3) := by decide +kernel
theorem dL_changes_162 : decode cL_changes 162 = .ok (.iload 10, 2) := by decide +kernel
theorem dL_changes_164 : decode cL_changes 164 = .ok (.bipush 31, 2) := by decide +kernel
theorem dL_changes_166 : decode cL_changes 166 = .ok (.if_icmp .le 8, 3) := by decide +kernel
theorem dL_changes_169 : decode cL_changes 169 = .ok (.bipush (-111), 2) := by decide +kernel
theorem dL_changes_171 : decode cL_changes 171 = .ok (.goto 5, 3) := by decide +kernel
theorem dL_changes_174 : decode cL_changes 174 = .ok (.bipush (-113), 2) := by decide +kernel
theorem dL_changes_176 : decode cL_changes 176 = .ok (.if_icmp .ne 20, 3) := by decide +kernel
theorem dL_changes_179 : decode cL_changes 179 = .ok (.iload 11, 2) := by decide +kernel
theorem dL_changes_181 : decode cL_changes 181 = .ok (.bipush (-111), 2) := by decide +kernel
theorem dL_changes_183 : decode cL_changes 183 = .ok (.if_icmp .eq 9, 3) := by decide +kernel
theorem dL_changes_186 : decode cL_changes 186 = .ok (.iload 7, 2) := by decide +kernel
theorem dL_changes_188 : decode cL_changes 188 = .ok (.iconst 5, 1) := by decide +kernel
theorem dL_changes_189 : decode cL_changes 189 = .ok (.if_icmp .ne 7, 3) := by decide +kernel
theorem dL_changes_192 : decode cL_changes 192 = .ok (.iconst 1, 1) := by decide +kernel
theorem dL_changes_193 : decode cL_changes 193 = .ok (.goto 4, 3) := by decide +kernel
theorem dL_changes_196 : decode cL_changes 196 = .ok (.iconst 0, 1) := by decide +kernel
theorem dL_changes_197 : decode cL_changes 197 = .ok (.ireturn, 1) := by decide +kernel
theorem dL_changes_198 : decode cL_changes 198 = .ok (.iload 11, 2) := by decide +kernel
theorem dL_changes_200 : decode cL_changes 200 = .ok (.iload 7, 2) := by decide +kernel
theorem dL_changes_202 : decode cL_changes 202 = .ok (.if_icmp .ne 69, 3) := by decide +kernel
theorem dL_changes_205 : decode cL_changes 205 = .ok (.aload_n 0, 1) := by decide +kernel
theorem dL_changes_206 : decode cL_changes 206 = .ok (.iload 5, 2) := by decide +kernel
theorem dL_changes_208 : decode cL_changes 208 = .ok (.invokevirtual 42, 3) := by decide +kernel
theorem dL_changes_211 : decode cL_changes 211 = .ok (.iload 7, 2) := by decide +kernel
theorem dL_changes_213 : decode cL_changes 213 = .ok (.iconst 1, 1) := by decide +kernel
theorem dL_changes_214 : decode cL_changes 214 = .ok (.iadd, 1) := by decide +kernel
theorem dL_changes_215 : decode cL_changes 215 = .ok (.if_icmp .ne 56, 3) := by decide +kernel
theorem dL_changes_218 : decode cL_changes 218 = .ok (.aload_n 0, 1) := by decide +kernel
theorem dL_changes_219 : decode cL_changes 219 = .ok (.iload 5, 2) := by decide +kernel
theorem dL_changes_221 : decode cL_changes 221 = .ok (.invokevirtual 45, 3) := by decide +kernel
theorem dL_changes_224 : decode cL_changes 224 = .ok (.iload 8, 2) := by decide +kernel
theorem dL_changes_226 : decode cL_changes 226 = .ok (.if_icmp .ne 45, 3) := by decide +kernel
theorem dL_changes_229 : decode cL_changes 229 = .ok (.aload_n 0, 1) := by decide +kernel
theorem dL_changes_230 : decode cL_changes 230 = .ok (.bipush 8, 2) := by decide +kernel
theorem dL_changes_232 : decode cL_changes 232 = .ok (.iload 5, 2) := by decide +kernel
theorem dL_changes_234 : decode cL_changes 234 = .ok (.iload 11, 2) := by decide +kernel
theorem dL_changes_236 : decode cL_changes 236 = .ok (.iload 11, 2) := by decide +kernel
theorem dL_changes_238 : decode cL_changes 238 = .ok (.iconst 0, 1) := by decide +kernel
theorem dL_changes_239 : decode cL_changes 239 = .ok (.invokestatic 85, 3) := by decide +kernel
theorem dL_changes_242 : decode cL_changes 242 = .ok (.bipush (-112), 2) := by decide +kernel
theorem dL_changes_244 : decode cL_changes 244 = .ok (.if_icmp .ne 27, 3) := by decide +kernel
theorem dL_changes_247 : decode cL_changes 247 = .ok (.aload_n 0, 1) := by decide +kernel
theorem dL_changes_248 : decode cL_changes 248 = .ok (.bipush 8, 2) := by decide +kernel
theorem dL_changes_250 : decode cL_changes 250 = .ok (.iload 5, 2) := by decide +kernel
theorem dL_changes_252 : decode cL_changes 252 = .ok (.iload 11, 2) := by decide +kernel
theorem dL_changes_254 : decode cL_changes 254 = .ok (.iload 11, 2) := by decide +kernel
theorem dL_changes_256 : decode cL_changes 256 = .ok (.iconst 1, 1) := by decide +kernel
theorem dL_changes_257 : decode cL_changes 257 = .ok (.iadd, 1) := by decide +kernel
theorem dL_changes_258 : decode cL_changes 258 = .ok (.iconst 0, 1) := by decide +kernel
theorem dL_changes_259 : decode cL_changes 259 = .ok (.invokestatic 85, 3) := by decide +kernel
theorem dL_changes_262 : decode cL_changes 262 = .ok (.bipush (-111), 2) := by decide +kernel
theorem dL_changes_264 : decode cL_changes 264 = .ok (.if_icmp .ne 7, 3) := by decide +kernel
theorem dL_changes_267 : decode cL_changes 267 = .ok (.iconst 1, 1) := by decide +kernel
theorem dL_changes_268 : decode cL_changes 268 = .ok (.goto 4, 3) := by decide +kernel
theorem dL_changes_271 : decode cL_changes 271 = .ok (.iconst 0, 1) := by decide +kernel
theorem dL_changes_272 : decode cL_changes 272 = .ok (.ireturn, 1) := by decide +kernel
theorem dL_changes_273 : decode cL_changes 273 = .ok (.iload 9, 2) := by decide +kernel
theorem dL_changes_275 : decode cL_changes 275 = .ok (.bipush 13, 2) := by decide +kernel
theorem dL_changes_277 : decode cL_changes 277 = .ok (.if_icmp .ge 363, 3) := by decide +kernel
theorem dL_changes_280 : decode cL_changes 280 = .ok (.iload_n 2, 1) := by decide +kernel
theorem dL_changes_281 : decode cL_changes 281 = .ok (.ifCond .eq 17, 3) := by decide +kernel
theorem dL_changes_284 : decode cL_changes 284 = .ok (.iload_n 1, 1) := by decide +kernel
theorem dL_changes_285 : decode cL_changes 285 = .ok (.bipush 7, 2) := by decide +kernel
theorem dL_changes_287 : decode cL_changes 287 = .ok (.ishr, 1) := by decide +kernel
theorem dL_changes_288 : decode cL_changes 288 = .ok (.bipush 7, 2) := by decide +kernel
theorem dL_changes_290 : decode cL_changes 290 = .ok (.invokestatic 92, 3) := by decide +kernel
theorem dL_changes_293 : decode cL_changes 293 = .ok (.iconst 1, 1) := by decide +kernel
theorem dL_changes_294 : decode cL_changes 294 = .ok (.isub, 1) := by decide +kernel
theorem dL_changes_295 : decode cL_changes 295 = .ok (.goto 21, 3) := by decide +kernel
theorem dL_changes_298 : decode cL_changes 298 = .ok (.iload_n 1, 1) := by decide +kernel
theorem dL_changes_299 : decode cL_changes 299 = .ok (.bipush 7, 2) := by decide +kernel
theorem dL_changes_301 : decode cL_changes 301 = .ok (.ishr, 1) := by decide +kernel
theorem dL_changes_302 : decode cL_changes 302 = .ok (.iload 7, 2) := by decide +kernel
theorem dL_changes_304 : decode cL_changes 304 = .ok (.ifCond .ne 7, 3) := by decide +kernel
theorem dL_changes_307 : decode cL_changes 307 = .ok (.iconst 1, 1) := by decide +kernel
theorem dL_changes_308 : decode cL_changes 308 = .ok (.goto 5, 3) := by decide +kernel
theorem dL_changes_311 : decode cL_changes 311 = .ok (.iload 7, 2) := by decide +kernel
theorem dL_changes_313 : decode cL_changes 313 = .ok (.invokestatic 92, 3) := by decide +kernel
theorem dL_changes_316 : decode cL_changes 316 = .ok (.istore 10, 2) := by decide +kernel
theorem dL_changes_318 : decode cL_changes 318 = .ok (.iload_n 2, 1) := by decide +kernel
theorem dL_changes_319 : decode cL_changes 319 = .ok (.ifCond .eq 17, 3) := by decide +kernel
theorem dL_changes_322 : decode cL_changes 322 = .ok (.iload_n 1, 1) := by decide +kernel
theorem dL_changes_323 : decode cL_changes 323 = .ok (.bipush 9, 2) := by decide +kernel
theorem dL_changes_325 : decode cL_changes 325 = .ok (.ishr, 1) := by decide +kernel
theorem dL_changes_326 : decode cL_changes 326 = .ok (.bipush 7, 2) := by decide +kernel
theorem dL_changes_328 : decode cL_changes 328 = .ok (.invokestatic 92, 3) := by decide +kernel
theorem dL_changes_331 : decode cL_changes 331 = .ok (.iconst 1, 1) := by decide +kernel
theorem dL_changes_332 : decode cL_changes 332 = .ok (.isub, 1) := by decide +kernel
theorem dL_changes_333 : decode cL_changes 333 = .ok (.goto 21, 3) := by decide +kernel
theorem dL_changes_336 : decode cL_changes 336 = .ok (.iload_n 1, 1) := by decide +kernel
theorem dL_changes_337 : decode cL_changes 337 = .ok (.bipush 9, 2) := by decide +kernel
theorem dL_changes_339 : decode cL_changes 339 = .ok (.ishr, 1) := by decide +kernel
theorem dL_changes_340 : decode cL_changes 340 = .ok (.iload 7, 2) := by decide +kernel
theorem dL_changes_342 : decode cL_changes 342 = .ok (.ifCond .ne 7, 3) := by decide +kernel
theorem dL_changes_345 : decode cL_changes 345 = .ok (.iconst 1, 1) := by decide +kernel
theorem dL_changes_346 : decode cL_changes 346 = .ok (.goto 5, 3) := by decide +kernel
theorem dL_changes_349 : decode cL_changes 349 = .ok (.iload 7, 2) := by decide +kernel
theorem dL_changes_351 : decode cL_changes 351 = .ok (.invokestatic 92, 3) := by decide +kernel
theorem dL_changes_354 : decode cL_changes 354 = .ok (.istore 11, 2) := by decide +kernel
theorem dL_changes_356 : decode cL_changes 356 = .ok (.iload_n 2, 1) := by decide +kernel
theorem dL_changes_357 : decode cL_changes 357 = .ok (.ifCond .eq 17, 3) := by decide +kernel
theorem dL_changes_360 : decode cL_changes 360 = .ok (.iload_n 1, 1) := by decide +kernel
theorem dL_changes_361 : decode cL_changes 361 = .ok (.bipush 11, 2) := by decide +kernel
theorem dL_changes_363 : decode cL_changes 363 = .ok (.ishr, 1) := by decide +kernel
theorem dL_changes_364 : decode cL_changes 364 = .ok (.bipush 6, 2) := by decide +kernel
theorem dL_changes_366 : decode cL_changes 366 = .ok (.invokestatic 92, 3) := by decide +kernel
theorem dL_changes_369 : decode cL_changes 369 = .ok (.iconst 1, 1) := by decide +kernel
theorem dL_changes_370 : decode cL_changes 370 = .ok (.isub, 1) := by decide +kernel
theorem dL_changes_371 : decode cL_changes 371 = .ok (.goto 25, 3) := by decide +kernel
theorem dL_changes_374 : decode cL_changes 374 = .ok (.iload_n 1, 1) := by decide +kernel
theorem dL_changes_375 : decode cL_changes 375 = .ok (.bipush 11, 2) := by decide +kernel
theorem dL_changes_377 : decode cL_changes 377 = .ok (.ishr, 1) := by decide +kernel
theorem dL_changes_378 : decode cL_changes 378 = .ok (.iload_n 1, 1) := by decide +kernel
theorem dL_changes_379 : decode cL_changes 379 = .ok (.iconst 2, 1) := by decide +kernel
theorem dL_changes_380 : decode cL_changes 380 = .ok (.ishr, 1) := by decide +kernel
theorem dL_changes_381 : decode cL_changes 381 = .ok (.iconst 2, 1) := by decide +kernel
theorem dL_changes_382 : decode cL_changes 382 = .ok (.invokestatic 92, 3) := by decide +kernel
theorem dL_changes_385 : decode cL_changes 385 = .ok (.ifCond .ne 7, 3) := by decide +kernel
theorem dL_changes_388 : decode cL_changes 388 = .ok (.iconst 4, 1) := by decide +kernel
theorem dL_changes_389 : decode cL_changes 389 = .ok (.goto 4, 3) := by decide +kernel
theorem dL_changes_392 : decode cL_changes 392 = .ok (.iconst 2, 1) := by decide +kernel
theorem dL_changes_393 : decode cL_changes 393 = .ok (.invokestatic 92, 3) := by decide +kernel
theorem dL_changes_396 : decode cL_changes 396 = .ok (.istore 12, 2) := by decide +kernel
theorem dL_changes_398 : decode cL_changes 398 = .ok (.iload 6, 2) := by decide +kernel
theorem dL_changes_400 : decode cL_changes 400 = .ok (.ifCond .ne 27, 3) := by decide +kernel
theorem dL_changes_403 : decode cL_changes 403 = .ok (.iload 10, 2) := by decide +kernel
theorem dL_changes_405 : decode cL_changes 405 = .ok (.ifCond .lt 22, 3) := by decide +kernel
theorem dL_changes_408 : decode cL_changes 408 = .ok (.iload 10, 2) := by decide +kernel
theorem dL_changes_410 : decode cL_changes 410 = .ok (.iload 7, 2) := by decide +kernel
theorem dL_changes_412 : decode cL_changes 412 = .ok (.if_icmp .ge 15, 3) := by decide +kernel
theorem dL_changes_415 : decode cL_changes 415 = .ok (.iload 11, 2) := by decide +kernel
theorem dL_changes_417 : decode cL_changes 417 = .ok (.ifCond .lt 10, 3) := by decide +kernel
theorem dL_changes_420 : decode cL_changes 420 = .ok (.iload 11, 2) := by decide +kernel
theorem dL_changes_422 : decode cL_changes 422 = .ok (.iload 7, 2) := by decide +kernel
theorem dL_changes_424 : decode cL_changes 424 = .ok (.if_icmp .lt 7, 3) := by decide +kernel
theorem dL_changes_427 : decode cL_changes 427 = .ok (.iconst 1, 1) := by decide +kernel
theorem dL_changes_428 : decode cL_changes 428 = .ok (.goto 4, 3) := by decide +kernel
theorem dL_changes_431 : decode cL_changes 431 = .ok (.iconst 0, 1) := by decide +kernel
theorem dL_changes_432 : decode cL_changes 432 = .ok (.istore 6, 2) := by decide +kernel
theorem dL_changes_434 : decode cL_changes 434 = .ok (.aload_n 0, 1) := by decide +kernel
theorem dL_changes_435 : decode cL_changes 435 = .ok (.iconst 1, 1) := by decide +kernel
theorem dL_changes_436 : decode cL_changes 436 = .ok (.iload 5, 2) := by decide +kernel
theorem dL_changes_438 : decode cL_changes 438 = .ok (.iload 10, 2) := by decide +kernel
theorem dL_changes_440 : decode cL_changes 440 = .ok (.iload 11, 2) := by decide +kernel
theorem dL_changes_442 : decode cL_changes 442 = .ok (.iload 12, 2) := by decide +kernel
theorem dL_changes_444 : decode cL_changes 444 = .ok (.invokestatic 85, 3) := by decide +kernel
theorem dL_changes_447 : decode cL_changes 447 = .ok (.istore 13, 2) := by decide +kernel
theorem dL_changes_449 : decode cL_changes 449 = .ok (.iload 6, 2) := by decide +kernel
theorem dL_changes_451 : decode cL_changes 451 = .ok (.ifCond .ne 21, 3) := by decide +kernel
theorem dL_changes_454 : decode cL_changes 454 = .ok (.iload 10, 2) := by decide +kernel
theorem dL_changes_456 : decode cL_changes 456 = .ok (.iload 11, 2) := by decide +kernel
theorem dL_changes_458 : decode cL_changes 458 = .ok (.if_icmp .eq 14, 3) := by decide +kernel
theorem dL_changes_461 : decode cL_changes 461 = .ok (.iload 12, 2) := by decide +kernel
theorem dL_changes_463 : decode cL_changes 463 = .ok (.ifCond .lt 9, 3) := by decide +kernel
theorem dL_changes_466 : decode cL_changes 466 = .ok (.iload 12, 2) := by decide +kernel
theorem dL_changes_468 : decode cL_changes 468 = .ok (.iconst 3, 1) := by decide +kernel
theorem dL_changes_469 : decode cL_changes 469 = .ok (.if_icmp .le 35, 3) := by decide +kernel
theorem dL_changes_472 : decode cL_changes 472 = .ok (.iload 13, 2) := by decide +kernel
theorem dL_changes_474 : decode cL_changes 474 = .ok (.iload 6, 2) := by decide +kernel
theorem dL_changes_476 : decode cL_changes 476 = .ok (.ifCond .eq 8, 3) := by decide +kernel
theorem dL_changes_479 : decode cL_changes 479 = .ok (.bipush (-111), 2) := by decide +kernel
theorem dL_changes_481 : decode cL_changes 481 = .ok (.goto 5, 3) := by decide +kernel
theorem dL_changes_484 : decode cL_changes 484 = .ok (.bipush (-112), 2) := by decide +kernel
theorem dL_changes_486 : decode cL_changes 486 = .ok (.if_icmp .ne 16, 3) := by decide +kernel
theorem dL_changes_489 : decode cL_changes 489 = .ok (.aload_n 0, 1) := by decide +kernel
theorem dL_changes_490 : decode cL_changes 490 = .ok (.invokestatic 88, 3) := by decide +kernel
theorem dL_changes_493 : decode cL_changes 493 = .ok (.lload_n 3, 1) := by decide +kernel
theorem dL_changes_494 : decode cL_changes 494 = .ok (.lcmp, 1) := by decide +kernel
theorem dL_changes_495 : decode cL_changes 495 = .ok (.ifCond .ne 7, 3) := by decide +kernel
theorem dL_changes_498 : decode cL_changes 498 = .ok (.iconst 1, 1) := by decide +kernel
theorem dL_changes_499 : decode cL_changes 499 = .ok (.goto 4, 3) := by decide +kernel
theorem dL_changes_502 : decode cL_changes 502 = .ok (.iconst 0, 1) := by decide +kernel
theorem dL_changes_503 : decode cL_changes 503 = .ok (.ireturn, 1) := by decide +kernel
theorem dL_changes_504 : decode cL_changes 504 = .ok (.aload_n 0, 1) := by decide +kernel
theorem dL_changes_505 : decode cL_changes 505 = .ok (.iload 5, 2) := by decide +kernel
theorem dL_changes_507 : decode cL_changes 507 = .ok (.invokevirtual 45, 3) := by decide +kernel
theorem dL_changes_510 : decode cL_changes 510 = .ok (.iload 8, 2) := by decide +kernel
theorem dL_changes_512 : decode cL_changes 512 = .ok (.iload 13, 2) := by decide +kernel
theorem dL_changes_514 : decode cL_changes 514 = .ok (.iconst 1, 1) := by decide +kernel
theorem dL_changes_515 : decode cL_changes 515 = .ok (.if_icmp .ne 7, 3) := by decide +kernel
theorem dL_changes_518 : decode cL_changes 518 = .ok (.iconst 1, 1) := by decide +kernel
theorem dL_changes_519 : decode cL_changes 519 = .ok (.goto 4, 3) := by decide +kernel
theorem dL_changes_522 : decode cL_changes 522 = .ok (.iconst (-1), 1) := by decide +kernel
theorem dL_changes_523 : decode cL_changes 523 = .ok (.iadd, 1) := by decide +kernel
theorem dL_changes_524 : decode cL_changes 524 = .ok (.if_icmp .ne 27, 3) := by decide +kernel
theorem dL_changes_527 : decode cL_changes 527 = .ok (.iload 13, 2) := by decide +kernel
theorem dL_changes_529 : decode cL_changes 529 = .ok (.ifCond .eq 18, 3) := by decide +kernel
theorem dL_changes_532 : decode cL_changes 532 = .ok (.aload_n 0, 1) := by decide +kernel
theorem dL_changes_533 : decode cL_changes 533 = .ok (.iload 5, 2) := by decide +kernel
theorem dL_changes_535 : decode cL_changes 535 = .ok (.iload 10, 2) := by decide +kernel
theorem dL_changes_537 : decode cL_changes 537 = .ok (.iload 11, 2) := by decide +kernel
theorem dL_changes_539 : decode cL_changes 539 = .ok (.iload 12, 2) := by decide +kernel
theorem dL_changes_541 : decode cL_changes 541 = .ok (.invokevirtual 51, 3) := by decide +kernel
theorem dL_changes_544 : decode cL_changes 544 = .ok (.ifCond .eq 7, 3) := by decide +kernel
theorem dL_changes_547 : decode cL_changes 547 = .ok (.iconst 1, 1) := by decide +kernel
theorem dL_changes_548 : decode cL_changes 548 = .ok (.goto 4, 3) := by decide +kernel
theorem dL_changes_551 : decode cL_changes 551 = .ok (.iconst 0, 1) := by decide +kernel
theorem dL_changes_552 : decode cL_changes 552 = .ok (.istore 14, 2) := by decide +kernel
theorem dL_changes_554 : decode cL_changes 554 = .ok (.aload_n 0, 1) := by decide +kernel
theorem dL_changes_555 : decode cL_changes 555 = .ok (.invokestatic 88, 3) := by decide +kernel
theorem dL_changes_558 : decode cL_changes 558 = .ok (.lstore 15, 2) := by decide +kernel
theorem dL_changes_560 : decode cL_changes 560 = .ok (.iload 14, 2) := by decide +kernel
theorem dL_changes_562 : decode cL_changes 562 = .ok (.ifCond .eq 54, 3) := by decide +kernel
theorem dL_changes_565 : decode cL_changes 565 = .ok (.aload_n 0, 1) := by decide +kernel
theorem dL_changes_566 : decode cL_changes 566 = .ok (.iconst 1, 1) := by decide +kernel
theorem dL_changes_567 : decode cL_changes 567 = .ok (.iload 5, 2) := by decide +kernel
theorem dL_changes_569 : decode cL_changes 569 = .ok (.iload 10, 2) := by decide +kernel
theorem dL_changes_571 : decode cL_changes 571 = .ok (.iload 11, 2) := by decide +kernel
theorem dL_changes_573 : decode cL_changes 573 = .ok (.iload 12, 2) := by decide +kernel
theorem dL_changes_575 : decode cL_changes 575 = .ok (.invokestatic 85, 3) := by decide +kernel
theorem dL_changes_578 : decode cL_changes 578 = .ok (.iconst 1, 1) := by decide +kernel
theorem dL_changes_579 : decode cL_changes 579 = .ok (.iload 13, 2) := by decide +kernel
theorem dL_changes_581 : decode cL_changes 581 = .ok (.isub, 1) := by decide +kernel
theorem dL_changes_582 : decode cL_changes 582 = .ok (.if_icmp .ne 34, 3) := by decide +kernel
theorem dL_changes_585 : decode cL_changes 585 = .ok (.aload_n 0, 1) := by decide +kernel
theorem dL_changes_586 : decode cL_changes 586 = .ok (.invokestatic 88, 3) := by decide +kernel
theorem dL_changes_589 : decode cL_changes 589 = .ok (.lload_n 3, 1) := by decide +kernel
theorem dL_changes_590 : decode cL_changes 590 = .ok (.lcmp, 1) := by decide +kernel
theorem dL_changes_591 : decode cL_changes 591 = .ok (.ifCond .ne 25, 3) := by decide +kernel
theorem dL_changes_594 : decode cL_changes 594 = .ok (.aload_n 0, 1) := by decide +kernel
theorem dL_changes_595 : decode cL_changes 595 = .ok (.iconst 1, 1) := by decide +kernel
theorem dL_changes_596 : decode cL_changes 596 = .ok (.iload 5, 2) := by decide +kernel
theorem dL_changes_598 : decode cL_changes 598 = .ok (.iload 10, 2) := by decide +kernel
theorem dL_changes_600 : decode cL_changes 600 = .ok (.iload 11, 2) := by decide +kernel
theorem dL_changes_602 : decode cL_changes 602 = .ok (.iload 12, 2) := by decide +kernel
theorem dL_changes_604 : decode cL_changes 604 = .ok (.invokestatic 85, 3) := by decide +kernel
theorem dL_changes_607 : decode cL_changes 607 = .ok (.iload 13, 2) := by decide +kernel
theorem dL_changes_609 : decode cL_changes 609 = .ok (.if_icmp .ne 7, 3) := by decide +kernel
theorem dL_changes_612 : decode cL_changes 612 = .ok (.iconst 1, 1) := by decide +kernel
theorem dL_changes_613 : decode cL_changes 613 = .ok (.goto 4, 3) := by decide +kernel
theorem dL_changes_616 : decode cL_changes 616 = .ok (.iconst 0, 1) := by decide +kernel
theorem dL_changes_617 : decode cL_changes 617 = .ok (.istore 14, 2) := by decide +kernel
theorem dL_changes_619 : decode cL_changes 619 = .ok (.iload 14, 2) := by decide +kernel
theorem dL_changes_621 : decode cL_changes 621 = .ok (.ifCond .eq 17, 3) := by decide +kernel
theorem dL_changes_624 : decode cL_changes 624 = .ok (.aload_n 0, 1) := by decide +kernel
theorem dL_changes_625 : decode cL_changes 625 = .ok (.invokestatic 88, 3) := by decide +kernel
theorem dL_changes_628 : decode cL_changes 628 = .ok (.lload 15, 2) := by decide +kernel
theorem dL_changes_630 : decode cL_changes 630 = .ok (.lcmp, 1) := by decide +kernel
theorem dL_changes_631 : decode cL_changes 631 = .ok (.ifCond .ne 7, 3) := by decide +kernel
theorem dL_changes_634 : decode cL_changes 634 = .ok (.iconst 1, 1) := by decide +kernel
theorem dL_changes_635 : decode cL_changes 635 = .ok (.goto 4, 3) := by decide +kernel
theorem dL_changes_638 : decode cL_changes 638 = .ok (.iconst 0, 1) := by decide +kernel
theorem dL_changes_639 : decode cL_changes 639 = .ok (.ireturn, 1) := by decide +kernel
theorem dL_changes_640 : decode cL_changes 640 = .ok (.iload 9, 2) := by decide +kernel
theorem dL_changes_642 : decode cL_changes 642 = .ok (.bipush 14, 2) := by decide +kernel
theorem dL_changes_644 : decode cL_changes 644 = .ok (.if_icmp .ge 186, 3) := by decide +kernel
theorem dL_changes_647 : decode cL_changes 647 = .ok (.iload_n 2, 1) := by decide +kernel
theorem dL_changes_648 : decode cL_changes 648 = .ok (.ifCond .eq 17, 3) := by decide +kernel
theorem dL_changes_651 : decode cL_changes 651 = .ok (.iload_n 1, 1) := by decide +kernel
theorem dL_changes_652 : decode cL_changes 652 = .ok (.bipush 7, 2) := by decide +kernel
theorem dL_changes_654 : decode cL_changes 654 = .ok (.ishr, 1) := by decide +kernel
theorem dL_changes_655 : decode cL_changes 655 = .ok (.bipush 34, 2) := by decide +kernel
theorem dL_changes_657 : decode cL_changes 657 = .ok (.invokestatic 92, 3) := by decide +kernel
theorem dL_changes_660 : decode cL_changes 660 = .ok (.iconst 1, 1) := by decide +kernel
theorem dL_changes_661 : decode cL_changes 661 = .ok (.isub, 1) := by decide +kernel
theorem dL_changes_662 : decode cL_changes 662 = .ok (.goto 12, 3) := by decide +kernel
theorem dL_changes_665 : decode cL_changes 665 = .ok (.iload_n 1, 1) := by decide +kernel
theorem dL_changes_666 : decode cL_changes 666 = .ok (.bipush 7, 2) := by decide +kernel
theorem dL_changes_668 : decode cL_changes 668 = .ok (.ishr, 1) := by decide +kernel
theorem dL_changes_669 : decode cL_changes 669 = .ok (.bipush 7, 2) := by decide +kernel
theorem dL_changes_671 : decode cL_changes 671 = .ok (.invokestatic 92, 3) := by decide +kernel
theorem dL_changes_674 : decode cL_changes 674 = .ok (.istore 10, 2) := by decide +kernel
theorem dL_changes_676 : decode cL_changes 676 = .ok (.iload_n 2, 1) := by decide +kernel
theorem dL_changes_677 : decode cL_changes 677 = .ok (.ifCond .eq 17, 3) := by decide +kernel
theorem dL_changes_680 : decode cL_changes 680 = .ok (.iload_n 1, 1) := by decide +kernel
theorem dL_changes_681 : decode cL_changes 681 = .ok (.bipush 9, 2) := by decide +kernel
theorem dL_changes_683 : decode cL_changes 683 = .ok (.ishr, 1) := by decide +kernel
theorem dL_changes_684 : decode cL_changes 684 = .ok (.bipush 34, 2) := by decide +kernel
theorem dL_changes_686 : decode cL_changes 686 = .ok (.invokestatic 92, 3) := by decide +kernel
theorem dL_changes_689 : decode cL_changes 689 = .ok (.iconst 1, 1) := by decide +kernel
theorem dL_changes_690 : decode cL_changes 690 = .ok (.isub, 1) := by decide +kernel
theorem dL_changes_691 : decode cL_changes 691 = .ok (.goto 12, 3) := by decide +kernel
theorem dL_changes_694 : decode cL_changes 694 = .ok (.iload_n 1, 1) := by decide +kernel
theorem dL_changes_695 : decode cL_changes 695 = .ok (.bipush 9, 2) := by decide +kernel
theorem dL_changes_697 : decode cL_changes 697 = .ok (.ishr, 1) := by decide +kernel
theorem dL_changes_698 : decode cL_changes 698 = .ok (.bipush 7, 2) := by decide +kernel
theorem dL_changes_700 : decode cL_changes 700 = .ok (.invokestatic 92, 3) := by decide +kernel
theorem dL_changes_703 : decode cL_changes 703 = .ok (.istore 11, 2) := by decide +kernel
theorem dL_changes_705 : decode cL_changes 705 = .ok (.aload_n 0, 1) := by decide +kernel
theorem dL_changes_706 : decode cL_changes 706 = .ok (.iconst 3, 1) := by decide +kernel
theorem dL_changes_707 : decode cL_changes 707 = .ok (.iload 10, 2) := by decide +kernel
theorem dL_changes_709 : decode cL_changes 709 = .ok (.iload 11, 2) := by decide +kernel
theorem dL_changes_711 : decode cL_changes 711 = .ok (.iconst 0, 1) := by decide +kernel
theorem dL_changes_712 : decode cL_changes 712 = .ok (.iconst 0, 1) := by decide +kernel
theorem dL_changes_713 : decode cL_changes 713 = .ok (.invokestatic 85, 3) := by decide +kernel
theorem dL_changes_716 : decode cL_changes 716 = .ok (.istore 12, 2) := by decide +kernel
theorem dL_changes_718 : decode cL_changes 718 = .ok (.iload 10, 2) := by decide +kernel
theorem dL_changes_720 : decode cL_changes 720 = .ok (.ifCond .lt 22, 3) := by decide +kernel
theorem dL_changes_723 : decode cL_changes 723 = .ok (.iload 10, 2) := by decide +kernel
theorem dL_changes_725 : decode cL_changes 725 = .ok (.bipush 31, 2) := by decide +kernel
theorem dL_changes_727 : decode cL_changes 727 = .ok (.if_icmp .gt 15, 3) := by decide +kernel
theorem dL_changes_730 : decode cL_changes 730 = .ok (.iload 11, 2) := by decide +kernel
theorem dL_changes_732 : decode cL_changes 732 = .ok (.ifCond .lt 10, 3) := by decide +kernel
theorem dL_changes_735 : decode cL_changes 735 = .ok (.iload 11, 2) := by decide +kernel
theorem dL_changes_737 : decode cL_changes 737 = .ok (.bipush 31, 2) := by decide +kernel
theorem dL_changes_739 : decode cL_changes 739 = .ok (.if_icmp .le 25, 3) := by decide +kernel
theorem dL_changes_742 : decode cL_changes 742 = .ok (.iload 12, 2) := by decide +kernel
theorem dL_changes_744 : decode cL_changes 744 = .ok (.bipush (-111), 2) := by decide +kernel
theorem dL_changes_746 : decode cL_changes 746 = .ok (.if_icmp .ne 16, 3) := by decide +kernel
theorem dL_changes_749 : decode cL_changes 749 = .ok (.aload_n 0, 1) := by decide +kernel
theorem dL_changes_750 : decode cL_changes 750 = .ok (.invokestatic 88, 3) := by decide +kernel
theorem dL_changes_753 : decode cL_changes 753 = .ok (.lload_n 3, 1) := by decide +kernel
theorem dL_changes_754 : decode cL_changes 754 = .ok (.lcmp, 1) := by decide +kernel
theorem dL_changes_755 : decode cL_changes 755 = .ok (.ifCond .ne 7, 3) := by decide +kernel
theorem dL_changes_758 : decode cL_changes 758 = .ok (.iconst 1, 1) := by decide +kernel
theorem dL_changes_759 : decode cL_changes 759 = .ok (.goto 4, 3) := by decide +kernel
theorem dL_changes_762 : decode cL_changes 762 = .ok (.iconst 0, 1) := by decide +kernel
theorem dL_changes_763 : decode cL_changes 763 = .ok (.ireturn, 1) := by decide +kernel
theorem dL_changes_764 : decode cL_changes 764 = .ok (.iload 12, 2) := by decide +kernel
theorem dL_changes_766 : decode cL_changes 766 = .ok (.ifCond .eq 12, 3) := by decide +kernel
theorem dL_changes_769 : decode cL_changes 769 = .ok (.aload_n 0, 1) := by decide +kernel
theorem dL_changes_770 : decode cL_changes 770 = .ok (.invokestatic 88, 3) := by decide +kernel
theorem dL_changes_773 : decode cL_changes 773 = .ok (.lload_n 3, 1) := by decide +kernel
theorem dL_changes_774 : decode cL_changes 774 = .ok (.lcmp, 1) := by decide +kernel
theorem dL_changes_775 : decode cL_changes 775 = .ok (.ifCond .ne 53, 3) := by decide +kernel
theorem dL_changes_778 : decode cL_changes 778 = .ok (.aload_n 0, 1) := by decide +kernel
theorem dL_changes_779 : decode cL_changes 779 = .ok (.iload 10, 2) := by decide +kernel
theorem dL_changes_781 : decode cL_changes 781 = .ok (.iload 11, 2) := by decide +kernel
theorem dL_changes_783 : decode cL_changes 783 = .ok (.invokevirtual 34, 3) := by decide +kernel
theorem dL_changes_786 : decode cL_changes 786 = .ok (.ifCond .eq 42, 3) := by decide +kernel
theorem dL_changes_789 : decode cL_changes 789 = .ok (.aload_n 0, 1) := by decide +kernel
theorem dL_changes_790 : decode cL_changes 790 = .ok (.iload 11, 2) := by decide +kernel
theorem dL_changes_792 : decode cL_changes 792 = .ok (.iload 10, 2) := by decide +kernel
theorem dL_changes_794 : decode cL_changes 794 = .ok (.invokevirtual 34, 3) := by decide +kernel
theorem dL_changes_797 : decode cL_changes 797 = .ok (.ifCond .eq 31, 3) := by decide +kernel
theorem dL_changes_800 : decode cL_changes 800 = .ok (.aload_n 0, 1) := by decide +kernel
theorem dL_changes_801 : decode cL_changes 801 = .ok (.iload 10, 2) := by decide +kernel
theorem dL_changes_803 : decode cL_changes 803 = .ok (.iload 10, 2) := by decide +kernel
theorem dL_changes_805 : decode cL_changes 805 = .ok (.invokevirtual 34, 3) := by decide +kernel
theorem dL_changes_808 : decode cL_changes 808 = .ok (.ifCond .eq 20, 3) := by decide +kernel
theorem dL_changes_811 : decode cL_changes 811 = .ok (.iload 10, 2) := by decide +kernel
theorem dL_changes_813 : decode cL_changes 813 = .ok (.iload 11, 2) := by decide +kernel
theorem dL_changes_815 : decode cL_changes 815 = .ok (.if_icmp .ne 9, 3) := by decide +kernel
theorem dL_changes_818 : decode cL_changes 818 = .ok (.iload 12, 2) := by decide +kernel
theorem dL_changes_820 : decode cL_changes 820 = .ok (.iconst 1, 1) := by decide +kernel
theorem dL_changes_821 : decode cL_changes 821 = .ok (.if_icmp .ne 7, 3) := by decide +kernel
theorem dL_changes_824 : decode cL_changes 824 = .ok (.iconst 1, 1) := by decide +kernel
theorem dL_changes_825 : decode cL_changes 825 = .ok (.goto 4, 3) := by decide +kernel
theorem dL_changes_828 : decode cL_changes 828 = .ok (.iconst 0, 1) := by decide +kernel
theorem dL_changes_829 : decode cL_changes 829 = .ok (.ireturn, 1) := by decide +kernel
theorem dL_changes_830 : decode cL_changes 830 = .ok (.iload 9, 2) := by decide +kernel
theorem dL_changes_832 : decode cL_changes 832 = .ok (.bipush 15, 2) := by decide +kernel
theorem dL_changes_834 : decode cL_changes 834 = .ok (.if_icmp .ge 216, 3) := by decide +kernel
theorem dL_changes_837 : decode cL_changes 837 = .ok (.iload_n 2, 1) := by decide +kernel
theorem dL_changes_838 : decode cL_changes 838 = .ok (.ifCond .eq 17, 3) := by decide +kernel
theorem dL_changes_841 : decode cL_changes 841 = .ok (.iload_n 1, 1) := by decide +kernel
theorem dL_changes_842 : decode cL_changes 842 = .ok (.bipush 7, 2) := by decide +kernel
theorem dL_changes_844 : decode cL_changes 844 = .ok (.ishr, 1) := by decide +kernel
theorem dL_changes_845 : decode cL_changes 845 = .ok (.bipush 6, 2) := by decide +kernel
theorem dL_changes_847 : decode cL_changes 847 = .ok (.invokestatic 92, 3) := by decide +kernel
theorem dL_changes_850 : decode cL_changes 850 = .ok (.iconst 1, 1) := by decide +kernel
theorem dL_changes_851 : decode cL_changes 851 = .ok (.isub, 1) := by decide +kernel
theorem dL_changes_852 : decode cL_changes 852 = .ok (.goto 11, 3) := by decide +kernel
theorem dL_changes_855 : decode cL_changes 855 = .ok (.iload_n 1, 1) := by decide +kernel
theorem dL_changes_856 : decode cL_changes 856 = .ok (.bipush 7, 2) := by decide +kernel
theorem dL_changes_858 : decode cL_changes 858 = .ok (.ishr, 1) := by decide +kernel
theorem dL_changes_859 : decode cL_changes 859 = .ok (.iconst 3, 1) := by decide +kernel
theorem dL_changes_860 : decode cL_changes 860 = .ok (.invokestatic 92, 3) := by decide +kernel
theorem dL_changes_863 : decode cL_changes 863 = .ok (.istore 10, 2) := by decide +kernel
theorem dL_changes_865 : decode cL_changes 865 = .ok (.iload_n 2, 1) := by decide +kernel
theorem dL_changes_866 : decode cL_changes 866 = .ok (.ifCond .eq 17, 3) := by decide +kernel
theorem dL_changes_869 : decode cL_changes 869 = .ok (.iload_n 1, 1) := by decide +kernel
theorem dL_changes_870 : decode cL_changes 870 = .ok (.bipush 9, 2) := by decide +kernel
theorem dL_changes_872 : decode cL_changes 872 = .ok (.ishr, 1) := by decide +kernel
theorem dL_changes_873 : decode cL_changes 873 = .ok (.bipush 6, 2) := by decide +kernel
theorem dL_changes_875 : decode cL_changes 875 = .ok (.invokestatic 92, 3) := by decide +kernel
theorem dL_changes_878 : decode cL_changes 878 = .ok (.iconst 1, 1) := by decide +kernel
theorem dL_changes_879 : decode cL_changes 879 = .ok (.isub, 1) := by decide +kernel
theorem dL_changes_880 : decode cL_changes 880 = .ok (.goto 11, 3) := by decide +kernel
theorem dL_changes_883 : decode cL_changes 883 = .ok (.iload_n 1, 1) := by decide +kernel
theorem dL_changes_884 : decode cL_changes 884 = .ok (.bipush 9, 2) := by decide +kernel
theorem dL_changes_886 : decode cL_changes 886 = .ok (.ishr, 1) := by decide +kernel
theorem dL_changes_887 : decode cL_changes 887 = .ok (.iconst 3, 1) := by decide +kernel
theorem dL_changes_888 : decode cL_changes 888 = .ok (.invokestatic 92, 3) := by decide +kernel
theorem dL_changes_891 : decode cL_changes 891 = .ok (.istore 11, 2) := by decide +kernel
theorem dL_changes_893 : decode cL_changes 893 = .ok (.iload_n 2, 1) := by decide +kernel
theorem dL_changes_894 : decode cL_changes 894 = .ok (.ifCond .eq 17, 3) := by decide +kernel
theorem dL_changes_897 : decode cL_changes 897 = .ok (.iload_n 1, 1) := by decide +kernel
theorem dL_changes_898 : decode cL_changes 898 = .ok (.bipush 11, 2) := by decide +kernel
theorem dL_changes_900 : decode cL_changes 900 = .ok (.ishr, 1) := by decide +kernel
theorem dL_changes_901 : decode cL_changes 901 = .ok (.bipush 7, 2) := by decide +kernel
theorem dL_changes_903 : decode cL_changes 903 = .ok (.invokestatic 92, 3) := by decide +kernel
theorem dL_changes_906 : decode cL_changes 906 = .ok (.iconst 2, 1) := by decide +kernel
theorem dL_changes_907 : decode cL_changes 907 = .ok (.isub, 1) := by decide +kernel
theorem dL_changes_908 : decode cL_changes 908 = .ok (.goto 13, 3) := by decide +kernel
theorem dL_changes_911 : decode cL_changes 911 = .ok (.iload_n 1, 1) := by decide +kernel
theorem dL_changes_912 : decode cL_changes 912 = .ok (.bipush 11, 2) := by decide +kernel
theorem dL_changes_914 : decode cL_changes 914 = .ok (.ishr, 1) := by decide +kernel
theorem dL_changes_915 : decode cL_changes 915 = .ok (.iconst 5, 1) := by decide +kernel
theorem dL_changes_916 : decode cL_changes 916 = .ok (.invokestatic 92, 3) := by decide +kernel
theorem dL_changes_919 : decode cL_changes 919 = .ok (.iconst 1, 1) := by decide +kernel
theorem dL_changes_920 : decode cL_changes 920 = .ok (.isub, 1) := by decide +kernel
theorem dL_changes_921 : decode cL_changes 921 = .ok (.istore 12, 2) := by decide +kernel
theorem dL_changes_923 : decode cL_changes 923 = .ok (.aload_n 0, 1) := by decide +kernel
theorem dL_changes_924 : decode cL_changes 924 = .ok (.iconst 4, 1) := by decide +kernel
theorem dL_changes_925 : decode cL_changes 925 = .ok (.iload 10, 2) := by decide +kernel
theorem dL_changes_927 : decode cL_changes 927 = .ok (.iload 11, 2) := by decide +kernel
theorem dL_changes_929 : decode cL_changes 929 = .ok (.iload 12, 2) := by decide +kernel
theorem dL_changes_931 : decode cL_changes 931 = .ok (.iconst 0, 1) := by decide +kernel
theorem dL_changes_932 : decode cL_changes 932 = .ok (.invokestatic 85, 3) := by decide +kernel
theorem dL_changes_935 : decode cL_changes 935 = .ok (.istore 13, 2) := by decide +kernel
theorem dL_changes_937 : decode cL_changes 937 = .ok (.iload 10, 2) := by decide +kernel
theorem dL_changes_939 : decode cL_changes 939 = .ok (.ifCond .lt 32, 3) := by decide +kernel
theorem dL_changes_942 : decode cL_changes 942 = .ok (.iload 10, 2) := by decide +kernel
theorem dL_changes_944 : decode cL_changes 944 = .ok (.iconst 3, 1) := by decide +kernel
theorem dL_changes_945 : decode cL_changes 945 = .ok (.if_icmp .gt 26, 3) := by decide +kernel
theorem dL_changes_948 : decode cL_changes 948 = .ok (.iload 11, 2) := by decide +kernel
theorem dL_changes_950 : decode cL_changes 950 = .ok (.ifCond .lt 21, 3) := by decide +kernel
theorem dL_changes_953 : decode cL_changes 953 = .ok (.iload 11, 2) := by decide +kernel
theorem dL_changes_955 : decode cL_changes 955 = .ok (.iconst 3, 1) := by decide +kernel
theorem dL_changes_956 : decode cL_changes 956 = .ok (.if_icmp .gt 15, 3) := by decide +kernel
theorem dL_changes_959 : decode cL_changes 959 = .ok (.iload 12, 2) := by decide +kernel
theorem dL_changes_961 : decode cL_changes 961 = .ok (.iconst (-1), 1) := by decide +kernel
theorem dL_changes_962 : decode cL_changes 962 = .ok (.if_icmp .lt 9, 3) := by decide +kernel
theorem dL_changes_965 : decode cL_changes 965 = .ok (.iload 12, 2) := by decide +kernel
theorem dL_changes_967 : decode cL_changes 967 = .ok (.iconst 3, 1) := by decide +kernel
theorem dL_changes_968 : decode cL_changes 968 = .ok (.if_icmp .le 25, 3) := by decide +kernel
theorem dL_changes_971 : decode cL_changes 971 = .ok (.iload 13, 2) := by decide +kernel
theorem dL_changes_973 : decode cL_changes 973 = .ok (.bipush (-112), 2) := by decide +kernel
theorem dL_changes_975 : decode cL_changes 975 = .ok (.if_icmp .ne 16, 3) := by decide +kernel
theorem dL_changes_978 : decode cL_changes 978 = .ok (.aload_n 0, 1) := by decide +kernel
theorem dL_changes_979 : decode cL_changes 979 = .ok (.invokestatic 88, 3) := by decide +kernel
theorem dL_changes_982 : decode cL_changes 982 = .ok (.lload_n 3, 1) := by decide +kernel
theorem dL_changes_983 : decode cL_changes 983 = .ok (.lcmp, 1) := by decide +kernel
theorem dL_changes_984 : decode cL_changes 984 = .ok (.ifCond .ne 7, 3) := by decide +kernel
theorem dL_changes_987 : decode cL_changes 987 = .ok (.iconst 1, 1) := by decide +kernel
theorem dL_changes_988 : decode cL_changes 988 = .ok (.goto 4, 3) := by decide +kernel
theorem dL_changes_991 : decode cL_changes 991 = .ok (.iconst 0, 1) := by decide +kernel
theorem dL_changes_992 : decode cL_changes 992 = .ok (.ireturn, 1) := by decide +kernel
theorem dL_changes_993 : decode cL_changes 993 = .ok (.iload 13, 2) := by decide +kernel
theorem dL_changes_995 : decode cL_changes 995 = .ok (.iconst (-1), 1) := by decide +kernel
theorem dL_changes_996 : decode cL_changes 996 = .ok (.if_icmp .lt 52, 3) := by decide +kernel
theorem dL_changes_999 : decode cL_changes 999 = .ok (.iload 13, 2) := by decide +kernel
theorem dL_changes_1001 : decode cL_changes 1001 = .ok (.iconst 4, 1) := by decide +kernel
theorem dL_changes_1002 : decode cL_changes 1002 = .ok (.if_icmp .ge 46, 3) := by decide +kernel
theorem dL_changes_1005 : decode cL_changes 1005 = .ok (.aload_n 0, 1) := by decide +kernel
theorem dL_changes_1006 : decode cL_changes 1006 = .ok (.iload 10, 2) := by decide +kernel
theorem dL_changes_1008 : decode cL_changes 1008 = .ok (.iload 11, 2) := by decide +kernel
theorem dL_changes_1010 : decode cL_changes 1010 = .ok (.iload 13, 2) := by decide +kernel
theorem dL_changes_1012 : decode cL_changes 1012 = .ok (.invokevirtual 38, 3) := by decide +kernel
theorem dL_changes_1015 : decode cL_changes 1015 = .ok (.iload 12, 2) := by decide +kernel
theorem dL_changes_1017 : decode cL_changes 1017 = .ok (.if_icmp .ne 31, 3) := by decide +kernel
theorem dL_changes_1020 : decode cL_changes 1020 = .ok (.aload_n 0, 1) := by decide +kernel
theorem dL_changes_1021 : decode cL_changes 1021 = .ok (.invokestatic 88, 3) := by decide +kernel
theorem dL_changes_1024 : decode cL_changes 1024 = .ok (.lload_n 3, 1) := by decide +kernel
theorem dL_changes_1025 : decode cL_changes 1025 = .ok (.lcmp, 1) := by decide +kernel
theorem dL_changes_1026 : decode cL_changes 1026 = .ok (.ifCond .ne 22, 3) := by decide +kernel
theorem dL_changes_1029 : decode cL_changes 1029 = .ok (.aload_n 0, 1) := by decide +kernel
theorem dL_changes_1030 : decode cL_changes 1030 = .ok (.iload 10, 2) := by decide +kernel
theorem dL_changes_1032 : decode cL_changes 1032 = .ok (.iload 11, 2) := by decide +kernel
theorem dL_changes_1034 : decode cL_changes 1034 = .ok (.iload 12, 2) := by decide +kernel
theorem dL_changes_1036 : decode cL_changes 1036 = .ok (.invokevirtual 38, 3) := by decide +kernel
theorem dL_changes_1039 : decode cL_changes 1039 = .ok (.iload 13, 2) := by decide +kernel
theorem dL_changes_1041 : decode cL_changes 1041 = .ok (.if_icmp .ne 7, 3) := by decide +kernel
theorem dL_changes_1044 : decode cL_changes 1044 = .ok (.iconst 1, 1) := by decide +kernel
theorem dL_changes_1045 : decode cL_changes 1045 = .ok (.goto 4, 3) := by decide +kernel
theorem dL_changes_1048 : decode cL_changes 1048 = .ok (.iconst 0, 1) := by decide +kernel
theorem dL_changes_1049 : decode cL_changes 1049 = .ok (.ireturn, 1) := by decide +kernel
theorem dL_changes_1050 : decode cL_changes 1050 = .ok (.iload_n 1, 1) := by decide +kernel
theorem dL_changes_1051 : decode cL_changes 1051 = .ok (.bipush 7, 2) := by decide +kernel
theorem dL_changes_1053 : decode cL_changes 1053 = .ok (.ishr, 1) := by decide +kernel
theorem dL_changes_1054 : decode cL_changes 1054 = .ok (.iconst 4, 1) := by decide +kernel
theorem dL_changes_1055 : decode cL_changes 1055 = .ok (.invokestatic 92, 3) := by decide +kernel
theorem dL_changes_1058 : decode cL_changes 1058 = .ok (.ifCond .le 11, 3) := by decide +kernel
theorem dL_changes_1061 : decode cL_changes 1061 = .ok (.iload_n 2, 1) := by decide +kernel
theorem dL_changes_1062 : decode cL_changes 1062 = .ok (.ifCond .ne 7, 3) := by decide +kernel
theorem dL_changes_1065 : decode cL_changes 1065 = .ok (.iconst (-1), 1) := by decide +kernel
theorem dL_changes_1066 : decode cL_changes 1066 = .ok (.goto 13, 3) := by decide +kernel
theorem dL_changes_1069 : decode cL_changes 1069 = .ok (.aload_n 0, 1) := by decide +kernel
theorem dL_changes_1070 : decode cL_changes 1070 = .ok (.iconst 2, 1) := by decide +kernel
theorem dL_changes_1071 : decode cL_changes 1071 = .ok (.iload 5, 2) := by decide +kernel
theorem dL_changes_1073 : decode cL_changes 1073 = .ok (.iconst 0, 1) := by decide +kernel
theorem dL_changes_1074 : decode cL_changes 1074 = .ok (.iconst 0, 1) := by decide +kernel
theorem dL_changes_1075 : decode cL_changes 1075 = .ok (.iconst 0, 1) := by decide +kernel
theorem dL_changes_1076 : decode cL_changes 1076 = .ok (.invokestatic 85, 3) := by decide +kernel
theorem dL_changes_1079 : decode cL_changes 1079 = .ok (.istore 10, 2) := by decide +kernel
theorem dL_changes_1081 : decode cL_changes 1081 = .ok (.iload 10, 2) := by decide +kernel
theorem dL_changes_1083 : decode cL_changes 1083 = .ok (.iconst (-1), 1) := by decide +kernel
theorem dL_changes_1084 : decode cL_changes 1084 = .ok (.if_icmp .eq 77, 3) := by decide +kernel
theorem dL_changes_1087 : decode cL_changes 1087 = .ok (.iload 6, 2) := by decide +kernel
theorem dL_changes_1089 : decode cL_changes 1089 = .ok (.ifCond .eq 22, 3) := by decide +kernel
theorem dL_changes_1092 : decode cL_changes 1092 = .ok (.iload 10, 2) := by decide +kernel
theorem dL_changes_1094 : decode cL_changes 1094 = .ok (.bipush (-111), 2) := by decide +kernel
theorem dL_changes_1096 : decode cL_changes 1096 = .ok (.if_icmp .ne 69, 3) := by decide +kernel
theorem dL_changes_1099 : decode cL_changes 1099 = .ok (.aload_n 0, 1) := by decide +kernel
theorem dL_changes_1100 : decode cL_changes 1100 = .ok (.invokestatic 88, 3) := by decide +kernel
theorem dL_changes_1103 : decode cL_changes 1103 = .ok (.lload_n 3, 1) := by decide +kernel
theorem dL_changes_1104 : decode cL_changes 1104 = .ok (.lcmp, 1) := by decide +kernel
theorem dL_changes_1105 : decode cL_changes 1105 = .ok (.ifCond .ne 60, 3) := by decide +kernel
theorem dL_changes_1108 : decode cL_changes 1108 = .ok (.goto 53, 3) := by decide +kernel
theorem dL_changes_1111 : decode cL_changes 1111 = .ok (.iload 10, 2) := by decide +kernel
theorem dL_changes_1113 : decode cL_changes 1113 = .ok (.iload 7, 2) := by decide +kernel
theorem dL_changes_1115 : decode cL_changes 1115 = .ok (.iload 8, 2) := by decide +kernel
theorem dL_changes_1117 : decode cL_changes 1117 = .ok (.iadd, 1) := by decide +kernel
theorem dL_changes_1118 : decode cL_changes 1118 = .ok (.if_icmp .ne 47, 3) := by decide +kernel
theorem dL_changes_1121 : decode cL_changes 1121 = .ok (.aload_n 0, 1) := by decide +kernel
theorem dL_changes_1122 : decode cL_changes 1122 = .ok (.iload 5, 2) := by decide +kernel
theorem dL_changes_1124 : decode cL_changes 1124 = .ok (.invokevirtual 42, 3) := by decide +kernel
theorem dL_changes_1127 : decode cL_changes 1127 = .ok (.ifCond .ne 38, 3) := by decide +kernel
theorem dL_changes_1130 : decode cL_changes 1130 = .ok (.aload_n 0, 1) := by decide +kernel
theorem dL_changes_1131 : decode cL_changes 1131 = .ok (.iload 5, 2) := by decide +kernel
theorem dL_changes_1133 : decode cL_changes 1133 = .ok (.invokevirtual 45, 3) := by decide +kernel
theorem dL_changes_1136 : decode cL_changes 1136 = .ok (.ifCond .ne 29, 3) := by decide +kernel
theorem dL_changes_1139 : decode cL_changes 1139 = .ok (.aload_n 0, 1) := by decide +kernel
theorem dL_changes_1140 : decode cL_changes 1140 = .ok (.iload 5, 2) := by decide +kernel
theorem dL_changes_1142 : decode cL_changes 1142 = .ok (.invokevirtual 48, 3) := by decide +kernel
theorem dL_changes_1145 : decode cL_changes 1145 = .ok (.ifCond .ne 20, 3) := by decide +kernel
theorem dL_changes_1148 : decode cL_changes 1148 = .ok (.aload_n 0, 1) := by decide +kernel
theorem dL_changes_1149 : decode cL_changes 1149 = .ok (.iconst 2, 1) := by decide +kernel
theorem dL_changes_1150 : decode cL_changes 1150 = .ok (.iload 5, 2) := by decide +kernel
theorem dL_changes_1152 : decode cL_changes 1152 = .ok (.iconst 0, 1) := by decide +kernel
theorem dL_changes_1153 : decode cL_changes 1153 = .ok (.iconst 0, 1) := by decide +kernel
theorem dL_changes_1154 : decode cL_changes 1154 = .ok (.iconst 0, 1) := by decide +kernel
theorem dL_changes_1155 : decode cL_changes 1155 = .ok (.invokestatic 85, 3) := by decide +kernel
theorem dL_changes_1158 : decode cL_changes 1158 = .ok (.ifCond .ne 7, 3) := by decide +kernel
theorem dL_changes_1161 : decode cL_changes 1161 = .ok (.iconst 1, 1) := by decide +kernel
theorem dL_changes_1162 : decode cL_changes 1162 = .ok (.goto 4, 3) := by decide +kernel
theorem dL_changes_1165 : decode cL_changes 1165 = .ok (.iconst 0, 1) := by decide +kernel
theorem dL_changes_1166 : decode cL_changes 1166 = .ok (.ireturn, 1) := by decide +kernel
set_option maxRecDepth 20000 in
theorem ggL_hints_X6_points : GoodIn wsL_hints wsX6_points := goodIn_ca (goodIn_r _ [5, 6, 7, 8, 9, 4, 10, 11, 12, 13, 14, 15, 16, 17, 18, 19, 20, 21, 22, 23, 24, 25, 26, 27, 28, 29, 30, 31, 32, 33, 34, 35, 36, 37, 38, 39, 40, 41, 42, 43, 44, 45, 46, 47, 48, 49, 50, 51, 52, 53, 54, 55, 56, 57, 58, 59, 60, 61, 62, 63, 64, 65, 66, 67, 68, 69, 70, 71, 72, 73, 74, 75, 76, 77, 78, 79, 80, 81, 82, 83, 84, 85, 86, 87, 88, 89, 90, 91, 92, 93, 94, 95, 96, 97, 98, 99, 100, 101, 102, 103, 104, 105, 106, 107, 108, 109, 110, 111, 112, 113, 114, 115, 116, 117, 118, 119, 120, 121, 122, 123, 124, 125, 126, 127, 128, 129, 130, 131, 132, 182, 183, 184, 185, 186, 187, 188, 189, 190, 191, 192, 193, 194, 195, 196, 197, 198, 199, 200, 201, 202, 203, 204, 205, 206] (by decide +kernel) (by decide +kernel)) (goodIn_sub (fun _ h => List.mem_cons_of_mem _ (List.mem_append_left _ (List.mem_append_right _ h))) (by decide +kernel))
set_option maxRecDepth 20000 in
theorem gL_hints_X6_points : GoodIn wsL_hints (wsV RL 54 RX6 yX6_points wsX6_points) := goodIn_app (goodIn_of _ (by decide +kernel)) ggL_hints_X6_points
set_option maxRecDepth 20000 in
theorem ggL_hints_X6_hint : GoodIn wsL_hints wsX6_hint := goodIn_ca (goodIn_r _ [136, 137, 7, 8, 9, 4, 10, 11, 12, 13, 14, 15, 16, 17, 138, 139, 140, 141, 6, 142, 23, 143, 144, 18, 19, 20, 21, 22, 24, 25, 26, 27, 28, 29, 30, 31, 32, 33, 34, 35, 36, 37, 38, 39, 40, 41, 42, 43, 44, 45, 46, 47, 48, 49, 50, 51, 52, 53, 54, 55, 56, 57, 58, 59, 60, 61, 62, 63, 64, 65, 66, 67, 68, 69, 70, 71, 72, 73, 74, 75, 76, 77, 78, 79, 80, 81, 82, 83, 84, 85, 86, 87, 88, 89, 90, 91, 92, 93, 94, 95, 96, 97, 98, 99, 100, 101, 102, 103, 104, 105, 106, 107, 108, 109, 110, 111, 112, 113, 114, 115, 116, 117, 118, 119, 120, 121, 122, 123, 124, 125, 126, 127, 128, 129, 130, 131, 132, 145, 146, 147, 148, 149, 150, 151, 152, 153, 182, 183, 184, 185, 186, 187, 188, 189, 190, 191, 192, 193, 194, 195, 196, 197, 198, 199, 200, 201, 202, 203, 204, 205, 206] (by decide +kernel) (by decide +kernel)) (goodIn_sub (fun _ h => List.mem_cons_of_mem _ (List.mem_append_left _ (List.mem_append_right _ h))) (by decide +kernel))
set_option maxRecDepth 20000 in
theorem gL_hints_X6_hint : GoodIn wsL_hints (wsV RL 73 RX6 yX6_hint wsX6_hint) := goodIn_app (goodIn_of _ (by decide +kernel)) ggL_hints_X6_hint
set_option maxRecDepth 20000 in
theorem ggL_hints_X6_gain : GoodIn wsL_hints wsX6_gain := goodIn_ca (goodIn_r _ [157, 142, 7, 8, 9, 4, 10, 11, 12, 13, 14, 15, 16, 17, 138, 139, 140, 141, 6, 137, 23, 143, 144, 18, 19, 20, 21, 22, 24, 25, 26, 27, 28, 29, 30, 31, 32, 33, 34, 35, 36, 37, 38, 39, 40, 41, 42, 43, 44, 45, 46, 47, 48, 49, 50, 51, 52, 53, 54, 55, 56, 57, 58, 59, 60, 61, 62, 63, 64, 65, 66, 67, 68, 69, 70, 71, 72, 73, 74, 75, 76, 77, 78, 79, 80, 81, 82, 83, 84, 85, 86, 87, 88, 89, 90, 91, 92, 93, 94, 95, 96, 97, 98, 99, 100, 101, 102, 103, 104, 105, 106, 107, 108, 109, 110, 111, 112, 113, 114, 115, 116, 117, 118, 119, 120, 121, 122, 123, 124, 125, 126, 127, 128, 129, 130, 131, 132, 145, 146, 147, 148, 149, 150, 151, 152, 153, 182, 183, 184, 185, 186, 187, 188, 189, 190, 191, 192, 193, 194, 195, 196, 197, 198, 199, 200, 201, 202, 203, 204, 205, 206] (by decide +kernel) (by decide +kernel)) (goodIn_sub (fun _ h => List.mem_cons_of_mem _ (List.mem_append_left _ (List.mem_append_right _ h))) (by decide +kernel))
set_option maxRecDepth 20000 in
theorem gL_hints_X6_gain : GoodIn wsL_hints (wsV RL 76 RX6 yX6_gain wsX6_gain) := goodIn_app (goodIn_of _ (by decide +kernel)) ggL_hints_X6_gain
set_option maxRecDepth 20000 in
theorem ggL_hints_X6_ideas : GoodIn wsL_hints wsX6_ideas := goodIn_ca (goodIn_r _ [161, 13, 14, 15, 4, 16, 11, 12, 17, 192, 193, 194, 182, 183, 184, 185, 186, 187, 188, 189, 190, 191] (by decide +kernel) (by decide +kernel)) (goodIn_sub (fun _ h => List.mem_cons_of_mem _ (List.mem_append_left _ (List.mem_append_right _ h))) (by decide +kernel))
set_option maxRecDepth 20000 in
theorem gL_hints_X6_ideas : GoodIn wsL_hints (wsV RL 42 RX6 yX6_ideas wsX6_ideas) := goodIn_app (goodIn_of _ (by decide +kernel)) ggL_hints_X6_ideas
set_option maxRecDepth 20000 in
theorem ggL_hints_X6_link : GoodIn wsL_hints wsX6_link := goodIn_ca (goodIn_ca (goodIn_r _ [165, 13, 14, 15, 4, 16, 11, 12, 17, 166, 167, 168, 169, 170, 171, 172, 173, 174, 175, 176, 177, 178, 179, 29, 180, 31, 50, 51, 52, 53, 54, 39, 40, 35, 41, 37, 66, 67, 68, 69, 181, 146, 147, 148, 192, 193, 194, 182, 183, 184, 185, 186, 187, 188, 189, 190, 191, 195, 196] (by decide +kernel) (by decide +kernel)) (goodIn_sub (fun _ h => List.mem_cons_of_mem _ (List.mem_append_left _ (List.mem_append_right _ h))) (by decide +kernel))) (goodIn_sub (fun _ h => List.mem_cons_of_mem _ (List.mem_append_right _ h)) (by decide +kernel))
set_option maxRecDepth 20000 in
theorem gL_hints_X6_link : GoodIn wsL_hints (wsV RL 26 RX6 yX6_link wsX6_link) := goodIn_app (goodIn_of _ (by decide +kernel)) ggL_hints_X6_link
theorem dL_hints_0 : decode cL_hints 0 = .ok (.aload_n 0, 1) := by decide +kernel
theorem dL_hints_1 : decode cL_hints 1 = .ok (.iload_n 1, 1) := by decide +kernel
theorem dL_hints_2 : decode cL_hints 2 = .ok (.invokevirtual 54, 3) := by decide +kernel
theorem dL_hints_5 : decode cL_hints 5 = .ok (.istore_n 2, 1) := by decide +kernel
theorem dL_hints_6 : decode cL_hints 6 = .ok (.aload_n 0, 1) := by decide +kernel
theorem dL_hints_7 : decode cL_hints 7 = .ok (.iload_n 1, 1) := by decide +kernel
theorem dL_hints_8 : decode cL_hints 8 = .ok (.invokevirtual 73, 3) := by decide +kernel
theorem dL_hints_11 : decode cL_hints 11 = .ok (.istore_n 3, 1) := by decide +kernel
theorem dL_hints_12 : decode cL_hints 12 = .ok (.aload_n 0, 1) := by decide +kernel
theorem dL_hints_13 : decode cL_hints 13 = .ok (.iload_n 1, 1) := by decide +kernel
theorem dL_hints_14 : decode cL_hints 14 = .ok (.invokevirtual 76, 3) := by decide +kernel
theorem dL_hints_17 : decode cL_hints 17 = .ok (.istore 4, 2) := by decide +kernel
theorem dL_hints_19 : decode cL_hints 19 = .ok (.iload_n 3, 1) := by decide +kernel
theorem dL_hints_20 : decode cL_hints 20 = .ok (.iconst (-1), 1) := by decide +kernel
theorem dL_hints_21 : decode cL_hints 21 = .ok (.if_icmp .ne 14, 3) := by decide +kernel
theorem dL_hints_24 : decode cL_hints 24 = .ok (.iload 4, 2) := by decide +kernel
theorem dL_hints_26 : decode cL_hints 26 = .ok (.ifCond .ne 7, 3) := by decide +kernel
theorem dL_hints_29 : decode cL_hints 29 = .ok (.iconst 1, 1) := by decide +kernel
theorem dL_hints_30 : decode cL_hints 30 = .ok (.goto 4, 3) := by decide +kernel
theorem dL_hints_33 : decode cL_hints 33 = .ok (.iconst 0, 1) := by decide +kernel
theorem dL_hints_34 : decode cL_hints 34 = .ok (.ireturn, 1) := by decide +kernel
theorem dL_hints_35 : decode cL_hints 35 = .ok (.iload_n 3, 1) := by decide +kernel
theorem dL_hints_36 : decode cL_hints 36 = .ok (.bipush 100, 2) := by decide +kernel
theorem dL_hints_38 : decode cL_hints 38 = .ok (.idiv, 1) := by decide +kernel
theorem dL_hints_39 : decode cL_hints 39 = .ok (.istore 5, 2) := by decide +kernel
theorem dL_hints_41 : decode cL_hints 41 = .ok (.iload_n 3, 1) := by decide +kernel
theorem dL_hints_42 : decode cL_hints 42 = .ok (.bipush 10, 2) := by decide +kernel
theorem dL_hints_44 : decode cL_hints 44 = .ok (.idiv, 1) := by decide +kernel
theorem dL_hints_45 : decode cL_hints 45 = .ok (.bipush 10, 2) := by decide +kernel
theorem dL_hints_47 : decode cL_hints 47 = .ok (.irem, 1) := by decide +kernel
theorem dL_hints_48 : decode cL_hints 48 = .ok (.istore 6, 2) := by decide +kernel
theorem dL_hints_50 : decode cL_hints 50 = .ok (.iload 4, 2) := by decide +kernel
theorem dL_hints_52 : decode cL_hints 52 = .ok (.ifCond .le 62, 3) := by decide +kernel
theorem dL_hints_55 : decode cL_hints 55 = .ok (.iload 5, 2) := by decide +kernel
theorem dL_hints_57 : decode cL_hints 57 = .ok (.iload 6, 2) := by decide +kernel
theorem dL_hints_59 : decode cL_hints 59 = .ok (.if_icmp .eq 55, 3) := by decide +kernel
theorem dL_hints_62 : decode cL_hints 62 = .ok (.iload 5, 2) := by decide +kernel
theorem dL_hints_64 : decode cL_hints 64 = .ok (.aload_n 0, 1) := by decide +kernel
theorem dL_hints_65 : decode cL_hints 65 = .ok (.iconst 0, 1) := by decide +kernel
theorem dL_hints_66 : decode cL_hints 66 = .ok (.invokevirtual 42, 3) := by decide +kernel
theorem dL_hints_69 : decode cL_hints 69 = .ok (.if_icmp .ge 45, 3) := by decide +kernel
theorem dL_hints_72 : decode cL_hints 72 = .ok (.iload 6, 2) := by decide +kernel
theorem dL_hints_74 : decode cL_hints 74 = .ok (.aload_n 0, 1) := by decide +kernel
theorem dL_hints_75 : decode cL_hints 75 = .ok (.iconst 0, 1) := by decide +kernel
theorem dL_hints_76 : decode cL_hints 76 = .ok (.invokevirtual 42, 3) := by decide +kernel
theorem dL_hints_79 : decode cL_hints 79 = .ok (.if_icmp .ge 35, 3) := by decide +kernel
theorem dL_hints_82 : decode cL_hints 82 = .ok (.aload_n 0, 1) := by decide +kernel
theorem dL_hints_83 : decode cL_hints 83 = .ok (.iconst 0, 1) := by decide +kernel
theorem dL_hints_84 : decode cL_hints 84 = .ok (.iload 5, 2) := by decide +kernel
theorem dL_hints_86 : decode cL_hints 86 = .ok (.iload 6, 2) := by decide +kernel
theorem dL_hints_88 : decode cL_hints 88 = .ok (.iload_n 3, 1) := by decide +kernel
theorem dL_hints_89 : decode cL_hints 89 = .ok (.bipush 10, 2) := by decide +kernel
theorem dL_hints_91 : decode cL_hints 91 = .ok (.irem, 1) := by decide +kernel
theorem dL_hints_92 : decode cL_hints 92 = .ok (.invokevirtual 26, 3) := by decide +kernel
theorem dL_hints_95 : decode cL_hints 95 = .ok (.ifCond .eq 19, 3) := by decide +kernel
theorem dL_hints_98 : decode cL_hints 98 = .ok (.aload_n 0, 1) := by decide +kernel
theorem dL_hints_99 : decode cL_hints 99 = .ok (.iload_n 1, 1) := by decide +kernel
theorem dL_hints_100 : decode cL_hints 100 = .ok (.invokevirtual 54, 3) := by decide +kernel
theorem dL_hints_103 : decode cL_hints 103 = .ok (.iload_n 2, 1) := by decide +kernel
theorem dL_hints_104 : decode cL_hints 104 = .ok (.iload 4, 2) := by decide +kernel
theorem dL_hints_106 : decode cL_hints 106 = .ok (.iadd, 1) := by decide +kernel
theorem dL_hints_107 : decode cL_hints 107 = .ok (.if_icmp .ne 7, 3) := by decide +kernel
theorem dL_hints_110 : decode cL_hints 110 = .ok (.iconst 1, 1) := by decide +kernel
theorem dL_hints_111 : decode cL_hints 111 = .ok (.goto 4, 3) := by decide +kernel
theorem dL_hints_114 : decode cL_hints 114 = .ok (.iconst 0, 1) := by decide +kernel
theorem dL_hints_115 : decode cL_hints 115 = .ok (.istore 7, 2) := by decide +kernel
theorem dL_hints_117 : decode cL_hints 117 = .ok (.iload 7, 2) := by decide +kernel
theorem dL_hints_119 : decode cL_hints 119 = .ok (.ifCond .eq 41, 3) := by decide +kernel
theorem dL_hints_122 : decode cL_hints 122 = .ok (.aload_n 0, 1) := by decide +kernel
theorem dL_hints_123 : decode cL_hints 123 = .ok (.iload_n 1, 1) := by decide +kernel
theorem dL_hints_124 : decode cL_hints 124 = .ok (.invokevirtual 73, 3) := by decide +kernel
theorem dL_hints_127 : decode cL_hints 127 = .ok (.iload_n 3, 1) := by decide +kernel
theorem dL_hints_128 : decode cL_hints 128 = .ok (.if_icmp .eq 32, 3) := by decide +kernel
theorem dL_hints_131 : decode cL_hints 131 = .ok (.aload_n 0, 1) := by decide +kernel
theorem dL_hints_132 : decode cL_hints 132 = .ok (.iconst 0, 1) := by decide +kernel
theorem dL_hints_133 : decode cL_hints 133 = .ok (.iload 5, 2) := by decide +kernel
theorem dL_hints_135 : decode cL_hints 135 = .ok (.iload 6, 2) := by decide +kernel
theorem dL_hints_137 : decode cL_hints 137 = .ok (.iload_n 3, 1) := by decide +kernel
theorem dL_hints_138 : decode cL_hints 138 = .ok (.bipush 10, 2) := by decide +kernel
theorem dL_hints_140 : decode cL_hints 140 = .ok (.irem, 1) := by decide +kernel
theorem dL_hints_141 : decode cL_hints 141 = .ok (.invokevirtual 26, 3) := by decide +kernel
theorem dL_hints_144 : decode cL_hints 144 = .ok (.ifCond .ne 16, 3) := by decide +kernel
theorem dL_hints_147 : decode cL_hints 147 = .ok (.aload_n 0, 1) := by decide +kernel
theorem dL_hints_148 : decode cL_hints 148 = .ok (.iload_n 1, 1) := by decide +kernel
theorem dL_hints_149 : decode cL_hints 149 = .ok (.invokevirtual 54, 3) := by decide +kernel
