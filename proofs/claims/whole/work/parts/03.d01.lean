theorem dX6_doSlice_19 : decode cX6_doSlice 19 = .ok (.getfield 142, 3) := by decide +kernel
theorem dX6_doSlice_22 : decode cX6_doSlice 22 = .ok (.ifCond .ne 116, 3) := by decide +kernel
theorem dX6_doSlice_25 : decode cX6_doSlice 25 = .ok (.aload_n 1, 1) := by decide +kernel
theorem dX6_doSlice_26 : decode cX6_doSlice 26 = .ok (.getfield 175, 3) := by decide +kernel
theorem dX6_doSlice_29 : decode cX6_doSlice 29 = .ok (.iconst 4, 1) := by decide +kernel
theorem dX6_doSlice_30 : decode cX6_doSlice 30 = .ok (.imul, 1) := by decide +kernel
theorem dX6_doSlice_31 : decode cX6_doSlice 31 = .ok (.istore_n 3, 1) := by decide +kernel
theorem dX6_doSlice_32 : decode cX6_doSlice 32 = .ok (.aload_n 1, 1) := by decide +kernel
theorem dX6_doSlice_33 : decode cX6_doSlice 33 = .ok (.aload_n 1, 1) := by decide +kernel
theorem dX6_doSlice_34 : decode cX6_doSlice 34 = .ok (.getfield 175, 3) := by decide +kernel
theorem dX6_doSlice_37 : decode cX6_doSlice 37 = .ok (.iconst 1, 1) := by decide +kernel
theorem dX6_doSlice_38 : decode cX6_doSlice 38 = .ok (.iadd, 1) := by decide +kernel
theorem dX6_doSlice_39 : decode cX6_doSlice 39 = .ok (.invokestatic 194, 3) := by decide +kernel
theorem dX6_doSlice_42 : decode cX6_doSlice 42 = .ok (.putfield 175, 3) := by decide +kernel
theorem dX6_doSlice_45 : decode cX6_doSlice 45 = .ok (.aload_n 1, 1) := by decide +kernel
theorem dX6_doSlice_46 : decode cX6_doSlice 46 = .ok (.dup, 1) := by decide +kernel
theorem dX6_doSlice_47 : decode cX6_doSlice 47 = .ok (.getfield 197, 3) := by decide +kernel
theorem dX6_doSlice_50 : decode cX6_doSlice 50 = .ok (.iconst 1, 1) := by decide +kernel
theorem dX6_doSlice_51 : decode cX6_doSlice 51 = .ok (.iadd, 1) := by decide +kernel
theorem dX6_doSlice_52 : decode cX6_doSlice 52 = .ok (.putfield 197, 3) := by decide +kernel
theorem dX6_doSlice_55 : decode cX6_doSlice 55 = .ok (.aload_n 0, 1) := by decide +kernel
theorem dX6_doSlice_56 : decode cX6_doSlice 56 = .ok (.dup, 1) := by decide +kernel
theorem dX6_doSlice_57 : decode cX6_doSlice 57 = .ok (.getfield 65, 3) := by decide +kernel
theorem dX6_doSlice_60 : decode cX6_doSlice 60 = .ok (.iconst 1, 1) := by decide +kernel
theorem dX6_doSlice_61 : decode cX6_doSlice 61 = .ok (.iadd, 1) := by decide +kernel
theorem dX6_doSlice_62 : decode cX6_doSlice 62 = .ok (.putfield 65, 3) := by decide +kernel
theorem dX6_doSlice_65 : decode cX6_doSlice 65 = .ok (.aload_n 0, 1) := by decide +kernel
theorem dX6_doSlice_66 : decode cX6_doSlice 66 = .ok (.aload_n 1, 1) := by decide +kernel
theorem dX6_doSlice_67 : decode cX6_doSlice 67 = .ok (.aload_n 0, 1) := by decide +kernel
theorem dX6_doSlice_68 : decode cX6_doSlice 68 = .ok (.getfield 9, 3) := by decide +kernel
theorem dX6_doSlice_71 : decode cX6_doSlice 71 = .ok (.iload_n 3, 1) := by decide +kernel
theorem dX6_doSlice_72 : decode cX6_doSlice 72 = .ok (.iaload, 1) := by decide +kernel
theorem dX6_doSlice_73 : decode cX6_doSlice 73 = .ok (.aload_n 0, 1) := by decide +kernel
theorem dX6_doSlice_74 : decode cX6_doSlice 74 = .ok (.getfield 9, 3) := by decide +kernel
theorem dX6_doSlice_77 : decode cX6_doSlice 77 = .ok (.iload_n 3, 1) := by decide +kernel
theorem dX6_doSlice_78 : decode cX6_doSlice 78 = .ok (.iconst 1, 1) := by decide +kernel
theorem dX6_doSlice_79 : decode cX6_doSlice 79 = .ok (.iadd, 1) := by decide +kernel
theorem dX6_doSlice_80 : decode cX6_doSlice 80 = .ok (.iaload, 1) := by decide +kernel
theorem dX6_doSlice_81 : decode cX6_doSlice 81 = .ok (.aload_n 0, 1) := by decide +kernel
theorem dX6_doSlice_82 : decode cX6_doSlice 82 = .ok (.getfield 9, 3) := by decide +kernel
theorem dX6_doSlice_85 : decode cX6_doSlice 85 = .ok (.iload_n 3, 1) := by decide +kernel
theorem dX6_doSlice_86 : decode cX6_doSlice 86 = .ok (.iconst 2, 1) := by decide +kernel
theorem dX6_doSlice_87 : decode cX6_doSlice 87 = .ok (.iadd, 1) := by decide +kernel
theorem dX6_doSlice_88 : decode cX6_doSlice 88 = .ok (.iaload, 1) := by decide +kernel
theorem dX6_doSlice_89 : decode cX6_doSlice 89 = .ok (.aload_n 0, 1) := by decide +kernel
theorem dX6_doSlice_90 : decode cX6_doSlice 90 = .ok (.getfield 9, 3) := by decide +kernel
theorem dX6_doSlice_93 : decode cX6_doSlice 93 = .ok (.iload_n 3, 1) := by decide +kernel
theorem dX6_doSlice_94 : decode cX6_doSlice 94 = .ok (.iconst 3, 1) := by decide +kernel
theorem dX6_doSlice_95 : decode cX6_doSlice 95 = .ok (.iadd, 1) := by decide +kernel
theorem dX6_doSlice_96 : decode cX6_doSlice 96 = .ok (.iaload, 1) := by decide +kernel
theorem dX6_doSlice_97 : decode cX6_doSlice 97 = .ok (.invokevirtual 198, 3) := by decide +kernel
theorem dX6_doSlice_100 : decode cX6_doSlice 100 = .ok (.istore 4, 2) := by decide +kernel
theorem dX6_doSlice_102 : decode cX6_doSlice 102 = .ok (.iload 4, 2) := by decide +kernel
theorem dX6_doSlice_104 : decode cX6_doSlice 104 = .ok (.iconst (-1), 1) := by decide +kernel
theorem dX6_doSlice_105 : decode cX6_doSlice 105 = .ok (.if_icmp .eq 23, 3) := by decide +kernel
theorem dX6_doSlice_108 : decode cX6_doSlice 108 = .ok (.aload_n 0, 1) := by decide +kernel
theorem dX6_doSlice_109 : decode cX6_doSlice 109 = .ok (.getfield 46, 3) := by decide +kernel
theorem dX6_doSlice_112 : decode cX6_doSlice 112 = .ok (.iconst 1, 1) := by decide +kernel
theorem dX6_doSlice_113 : decode cX6_doSlice 113 = .ok (.iload 4, 2) := by decide +kernel
theorem dX6_doSlice_115 : decode cX6_doSlice 115 = .ok (.invokevirtual 95, 3) := by decide +kernel
theorem dX6_doSlice_118 : decode cX6_doSlice 118 = .ok (.aload_n 0, 1) := by decide +kernel
theorem dX6_doSlice_119 : decode cX6_doSlice 119 = .ok (.aload_n 1, 1) := by decide +kernel
theorem dX6_doSlice_120 : decode cX6_doSlice 120 = .ok (.aload_n 0, 1) := by decide +kernel
theorem dX6_doSlice_121 : decode cX6_doSlice 121 = .ok (.getfield 46, 3) := by decide +kernel
theorem dX6_doSlice_124 : decode cX6_doSlice 124 = .ok (.invokevirtual 202, 3) := by decide +kernel
theorem dX6_doSlice_127 : decode cX6_doSlice 127 = .ok (.pop, 1) := by decide +kernel
theorem dX6_doSlice_128 : decode cX6_doSlice 128 = .ok (.aload_n 0, 1) := by decide +kernel
theorem dX6_doSlice_129 : decode cX6_doSlice 129 = .ok (.invokevirtual 206, 3) := by decide +kernel
theorem dX6_doSlice_132 : decode cX6_doSlice 132 = .ok (.iinc 2 1, 3) := by decide +kernel
theorem dX6_doSlice_135 : decode cX6_doSlice 135 = .ok (.goto (-123), 3) := by decide +kernel
theorem dX6_doSlice_138 : decode cX6_doSlice 138 = .ok (.aload_n 1, 1) := by decide +kernel
theorem dX6_doSlice_139 : decode cX6_doSlice 139 = .ok (.getfield 142, 3) := by decide +kernel
theorem dX6_doSlice_142 : decode cX6_doSlice 142 = .ok (.ifCond .ne 8, 3) := by decide +kernel
theorem dX6_doSlice_145 : decode cX6_doSlice 145 = .ok (.aload_n 0, 1) := by decide +kernel
theorem dX6_doSlice_146 : decode cX6_doSlice 146 = .ok (.aload_n 1, 1) := by decide +kernel
theorem dX6_doSlice_147 : decode cX6_doSlice 147 = .ok (.invokevirtual 184, 3) := by decide +kernel
theorem dX6_doSlice_150 : decode cX6_doSlice 150 = .ok (.return_, 1) := by decide +kernel
theorem dX6_doWord_0 : decode cX6_doWord 0 = .ok (.aload_n 1, 1) := by decide +kernel
theorem dX6_doWord_1 : decode cX6_doWord 1 = .ok (.iload_n 3, 1) := by decide +kernel
theorem dX6_doWord_2 : decode cX6_doWord 2 = .ok (.invokevirtual 137, 3) := by decide +kernel
theorem dX6_doWord_5 : decode cX6_doWord 5 = .ok (.astore 6, 2) := by decide +kernel
theorem dX6_doWord_7 : decode cX6_doWord 7 = .ok (.aload_n 1, 1) := by decide +kernel
theorem dX6_doWord_8 : decode cX6_doWord 8 = .ok (.iload 4, 2) := by decide +kernel
theorem dX6_doWord_10 : decode cX6_doWord 10 = .ok (.invokevirtual 137, 3) := by decide +kernel
theorem dX6_doWord_13 : decode cX6_doWord 13 = .ok (.astore 7, 2) := by decide +kernel
theorem dX6_doWord_15 : decode cX6_doWord 15 = .ok (.aload_n 1, 1) := by decide +kernel
theorem dX6_doWord_16 : decode cX6_doWord 16 = .ok (.iload 5, 2) := by decide +kernel
theorem dX6_doWord_18 : decode cX6_doWord 18 = .ok (.invokevirtual 137, 3) := by decide +kernel
theorem dX6_doWord_21 : decode cX6_doWord 21 = .ok (.astore 8, 2) := by decide +kernel
theorem dX6_doWord_23 : decode cX6_doWord 23 = .ok (.iload_n 2, 1) := by decide +kernel
theorem dX6_doWord_24 : decode cX6_doWord 24 = .ok (.tableswitch 663 0 35 #[160, 166, 175, 189, 197, 229, 261, 293, 311, 327, 343, 355, 362, 383, 404, 425, 434, 440, 460, 465, 473, 484, 500, 516, 525, 533, 538, 543, 552, 569, 581, 592, 606, 620, 634, 646], 160) := by decide +kernel
theorem dX6_doWord_184 : decode cX6_doWord 184 = .ok (.aload_n 0, 1) := by decide +kernel
theorem dX6_doWord_185 : decode cX6_doWord 185 = .ok (.aload_n 1, 1) := by decide +kernel
theorem dX6_doWord_186 : decode cX6_doWord 186 = .ok (.invokevirtual 209, 3) := by decide +kernel
theorem dX6_doWord_189 : decode cX6_doWord 189 = .ok (.ireturn, 1) := by decide +kernel
theorem dX6_doWord_190 : decode cX6_doWord 190 = .ok (.aload 6, 2) := by decide +kernel
theorem dX6_doWord_192 : decode cX6_doWord 192 = .ok (.iconst 0, 1) := by decide +kernel
theorem dX6_doWord_193 : decode cX6_doWord 193 = .ok (.iload 4, 2) := by decide +kernel
theorem dX6_doWord_195 : decode cX6_doWord 195 = .ok (.invokestatic 213, 3) := by decide +kernel
theorem dX6_doWord_198 : decode cX6_doWord 198 = .ok (.ireturn, 1) := by decide +kernel
theorem dX6_doWord_199 : decode cX6_doWord 199 = .ok (.aload 6, 2) := by decide +kernel
theorem dX6_doWord_201 : decode cX6_doWord 201 = .ok (.iconst 1, 1) := by decide +kernel
theorem dX6_doWord_202 : decode cX6_doWord 202 = .ok (.iload 4, 2) := by decide +kernel
theorem dX6_doWord_204 : decode cX6_doWord 204 = .ok (.bipush 100, 2) := by decide +kernel
theorem dX6_doWord_206 : decode cX6_doWord 206 = .ok (.invokestatic 161, 3) := by decide +kernel
theorem dX6_doWord_209 : decode cX6_doWord 209 = .ok (.invokestatic 213, 3) := by decide +kernel
theorem dX6_doWord_212 : decode cX6_doWord 212 = .ok (.ireturn, 1) := by decide +kernel
theorem dX6_doWord_213 : decode cX6_doWord 213 = .ok (.aload 6, 2) := by decide +kernel
theorem dX6_doWord_215 : decode cX6_doWord 215 = .ok (.aload 7, 2) := by decide +kernel
theorem dX6_doWord_217 : decode cX6_doWord 217 = .ok (.invokestatic 217, 3) := by decide +kernel
theorem dX6_doWord_220 : decode cX6_doWord 220 = .ok (.ireturn, 1) := by decide +kernel
theorem dX6_doWord_221 : decode cX6_doWord 221 = .ok (.aload 7, 2) := by decide +kernel
theorem dX6_doWord_223 : decode cX6_doWord 223 = .ok (.aload 8, 2) := by decide +kernel
theorem dX6_doWord_225 : decode cX6_doWord 225 = .ok (.invokestatic 221, 3) := by decide +kernel
theorem dX6_doWord_228 : decode cX6_doWord 228 = .ok (.ifCond .eq 23, 3) := by decide +kernel
theorem dX6_doWord_231 : decode cX6_doWord 231 = .ok (.aload 6, 2) := by decide +kernel
theorem dX6_doWord_233 : decode cX6_doWord 233 = .ok (.iconst 0, 1) := by decide +kernel
theorem dX6_doWord_234 : decode cX6_doWord 234 = .ok (.aload 7, 2) := by decide +kernel
theorem dX6_doWord_236 : decode cX6_doWord 236 = .ok (.invokevirtual 170, 3) := by decide +kernel
theorem dX6_doWord_239 : decode cX6_doWord 239 = .ok (.aload 8, 2) := by decide +kernel
theorem dX6_doWord_241 : decode cX6_doWord 241 = .ok (.invokevirtual 170, 3) := by decide +kernel
theorem dX6_doWord_244 : decode cX6_doWord 244 = .ok (.iadd, 1) := by decide +kernel
theorem dX6_doWord_245 : decode cX6_doWord 245 = .ok (.invokestatic 213, 3) := by decide +kernel
theorem dX6_doWord_248 : decode cX6_doWord 248 = .ok (.goto 4, 3) := by decide +kernel
theorem dX6_doWord_251 : decode cX6_doWord 251 = .ok (.iconst 4, 1) := by decide +kernel
theorem dX6_doWord_252 : decode cX6_doWord 252 = .ok (.ireturn, 1) := by decide +kernel
theorem dX6_doWord_253 : decode cX6_doWord 253 = .ok (.aload 7, 2) := by decide +kernel
theorem dX6_doWord_255 : decode cX6_doWord 255 = .ok (.aload 8, 2) := by decide +kernel
theorem dX6_doWord_257 : decode cX6_doWord 257 = .ok (.invokestatic 221, 3) := by decide +kernel
theorem dX6_doWord_260 : decode cX6_doWord 260 = .ok (.ifCond .eq 23, 3) := by decide +kernel
theorem dX6_doWord_263 : decode cX6_doWord 263 = .ok (.aload 6, 2) := by decide +kernel
theorem dX6_doWord_265 : decode cX6_doWord 265 = .ok (.iconst 0, 1) := by decide +kernel
theorem dX6_doWord_266 : decode cX6_doWord 266 = .ok (.aload 7, 2) := by decide +kernel
theorem dX6_doWord_268 : decode cX6_doWord 268 = .ok (.invokevirtual 170, 3) := by decide +kernel
theorem dX6_doWord_271 : decode cX6_doWord 271 = .ok (.aload 8, 2) := by decide +kernel
theorem dX6_doWord_273 : decode cX6_doWord 273 = .ok (.invokevirtual 170, 3) := by decide +kernel
theorem dX6_doWord_276 : decode cX6_doWord 276 = .ok (.isub, 1) := by decide +kernel
theorem dX6_doWord_277 : decode cX6_doWord 277 = .ok (.invokestatic 213, 3) := by decide +kernel
theorem dX6_doWord_280 : decode cX6_doWord 280 = .ok (.goto 4, 3) := by decide +kernel
theorem dX6_doWord_283 : decode cX6_doWord 283 = .ok (.iconst 4, 1) := by decide +kernel
theorem dX6_doWord_284 : decode cX6_doWord 284 = .ok (.ireturn, 1) := by decide +kernel
theorem dX6_doWord_285 : decode cX6_doWord 285 = .ok (.aload 7, 2) := by decide +kernel
theorem dX6_doWord_287 : decode cX6_doWord 287 = .ok (.aload 8, 2) := by decide +kernel
theorem dX6_doWord_289 : decode cX6_doWord 289 = .ok (.invokestatic 221, 3) := by decide +kernel
theorem dX6_doWord_292 : decode cX6_doWord 292 = .ok (.ifCond .eq 23, 3) := by decide +kernel
theorem dX6_doWord_295 : decode cX6_doWord 295 = .ok (.aload 6, 2) := by decide +kernel
theorem dX6_doWord_297 : decode cX6_doWord 297 = .ok (.iconst 0, 1) := by decide +kernel
theorem dX6_doWord_298 : decode cX6_doWord 298 = .ok (.aload 7, 2) := by decide +kernel
theorem dX6_doWord_300 : decode cX6_doWord 300 = .ok (.invokevirtual 170, 3) := by decide +kernel
theorem dX6_doWord_303 : decode cX6_doWord 303 = .ok (.aload 8, 2) := by decide +kernel
theorem dX6_doWord_305 : decode cX6_doWord 305 = .ok (.invokevirtual 170, 3) := by decide +kernel
theorem dX6_doWord_308 : decode cX6_doWord 308 = .ok (.imul, 1) := by decide +kernel
theorem dX6_doWord_309 : decode cX6_doWord 309 = .ok (.invokestatic 213, 3) := by decide +kernel
theorem dX6_doWord_312 : decode cX6_doWord 312 = .ok (.goto 4, 3) := by decide +kernel
theorem dX6_doWord_315 : decode cX6_doWord 315 = .ok (.iconst 4, 1) := by decide +kernel
theorem dX6_doWord_316 : decode cX6_doWord 316 = .ok (.ireturn, 1) := by decide +kernel
theorem dX6_doWord_317 : decode cX6_doWord 317 = .ok (.aload 6, 2) := by decide +kernel
theorem dX6_doWord_319 : decode cX6_doWord 319 = .ok (.aload 7, 2) := by decide +kernel
theorem dX6_doWord_321 : decode cX6_doWord 321 = .ok (.aload 8, 2) := by decide +kernel
theorem dX6_doWord_323 : decode cX6_doWord 323 = .ok (.invokevirtual 225, 3) := by decide +kernel
theorem dX6_doWord_326 : decode cX6_doWord 326 = .ok (.ifCond .eq 7, 3) := by decide +kernel
theorem dX6_doWord_329 : decode cX6_doWord 329 = .ok (.iconst (-1), 1) := by decide +kernel
theorem dX6_doWord_330 : decode cX6_doWord 330 = .ok (.goto 4, 3) := by decide +kernel
theorem dX6_doWord_333 : decode cX6_doWord 333 = .ok (.iconst 5, 1) := by decide +kernel
theorem dX6_doWord_334 : decode cX6_doWord 334 = .ok (.ireturn, 1) := by decide +kernel
theorem dX6_doWord_335 : decode cX6_doWord 335 = .ok (.aload 6, 2) := by decide +kernel
theorem dX6_doWord_337 : decode cX6_doWord 337 = .ok (.aload 7, 2) := by decide +kernel
theorem dX6_doWord_339 : decode cX6_doWord 339 = .ok (.invokevirtual 228, 3) := by decide +kernel
theorem dX6_doWord_342 : decode cX6_doWord 342 = .ok (.ifCond .eq 7, 3) := by decide +kernel
theorem dX6_doWord_345 : decode cX6_doWord 345 = .ok (.iconst (-1), 1) := by decide +kernel
theorem dX6_doWord_346 : decode cX6_doWord 346 = .ok (.goto 4, 3) := by decide +kernel
theorem dX6_doWord_349 : decode cX6_doWord 349 = .ok (.iconst 4, 1) := by decide +kernel
theorem dX6_doWord_350 : decode cX6_doWord 350 = .ok (.ireturn, 1) := by decide +kernel
theorem dX6_doWord_351 : decode cX6_doWord 351 = .ok (.aload 6, 2) := by decide +kernel
theorem dX6_doWord_353 : decode cX6_doWord 353 = .ok (.aload 7, 2) := by decide +kernel
theorem dX6_doWord_355 : decode cX6_doWord 355 = .ok (.invokevirtual 232, 3) := by decide +kernel
theorem dX6_doWord_358 : decode cX6_doWord 358 = .ok (.ifCond .eq 7, 3) := by decide +kernel
theorem dX6_doWord_361 : decode cX6_doWord 361 = .ok (.iconst (-1), 1) := by decide +kernel
theorem dX6_doWord_362 : decode cX6_doWord 362 = .ok (.goto 4, 3) := by decide +kernel
theorem dX6_doWord_365 : decode cX6_doWord 365 = .ok (.iconst 4, 1) := by decide +kernel
theorem dX6_doWord_366 : decode cX6_doWord 366 = .ok (.ireturn, 1) := by decide +kernel
theorem dX6_doWord_367 : decode cX6_doWord 367 = .ok (.aload 6, 2) := by decide +kernel
theorem dX6_doWord_369 : decode cX6_doWord 369 = .ok (.iconst 0, 1) := by decide +kernel
theorem dX6_doWord_370 : decode cX6_doWord 370 = .ok (.aload 7, 2) := by decide +kernel
theorem dX6_doWord_372 : decode cX6_doWord 372 = .ok (.invokevirtual 167, 3) := by decide +kernel
theorem dX6_doWord_375 : decode cX6_doWord 375 = .ok (.invokestatic 213, 3) := by decide +kernel
theorem dX6_doWord_378 : decode cX6_doWord 378 = .ok (.ireturn, 1) := by decide +kernel
theorem dX6_doWord_379 : decode cX6_doWord 379 = .ok (.aload_n 1, 1) := by decide +kernel
theorem dX6_doWord_380 : decode cX6_doWord 380 = .ok (.iload_n 3, 1) := by decide +kernel
theorem dX6_doWord_381 : decode cX6_doWord 381 = .ok (.iconst 1, 1) := by decide +kernel
theorem dX6_doWord_382 : decode cX6_doWord 382 = .ok (.invokestatic 235, 3) := by decide +kernel
theorem dX6_doWord_385 : decode cX6_doWord 385 = .ok (.ireturn, 1) := by decide +kernel
theorem dX6_doWord_386 : decode cX6_doWord 386 = .ok (.aload_n 1, 1) := by decide +kernel
theorem dX6_doWord_387 : decode cX6_doWord 387 = .ok (.iload_n 3, 1) := by decide +kernel
theorem dX6_doWord_388 : decode cX6_doWord 388 = .ok (.aload 7, 2) := by decide +kernel
theorem dX6_doWord_390 : decode cX6_doWord 390 = .ok (.aload 8, 2) := by decide +kernel
theorem dX6_doWord_392 : decode cX6_doWord 392 = .ok (.invokevirtual 239, 3) := by decide +kernel
theorem dX6_doWord_395 : decode cX6_doWord 395 = .ok (.ifCond .ne 7, 3) := by decide +kernel
theorem dX6_doWord_398 : decode cX6_doWord 398 = .ok (.iconst 1, 1) := by decide +kernel
theorem dX6_doWord_399 : decode cX6_doWord 399 = .ok (.goto 4, 3) := by decide +kernel
theorem dX6_doWord_402 : decode cX6_doWord 402 = .ok (.iconst 0, 1) := by decide +kernel
theorem dX6_doWord_403 : decode cX6_doWord 403 = .ok (.invokestatic 235, 3) := by decide +kernel
theorem dX6_doWord_406 : decode cX6_doWord 406 = .ok (.ireturn, 1) := by decide +kernel
theorem dX6_doWord_407 : decode cX6_doWord 407 = .ok (.aload_n 1, 1) := by decide +kernel
theorem dX6_doWord_408 : decode cX6_doWord 408 = .ok (.iload_n 3, 1) := by decide +kernel
theorem dX6_doWord_409 : decode cX6_doWord 409 = .ok (.aload 7, 2) := by decide +kernel
theorem dX6_doWord_411 : decode cX6_doWord 411 = .ok (.aload 8, 2) := by decide +kernel
theorem dX6_doWord_413 : decode cX6_doWord 413 = .ok (.invokevirtual 239, 3) := by decide +kernel
theorem dX6_doWord_416 : decode cX6_doWord 416 = .ok (.ifCond .ge 7, 3) := by decide +kernel
theorem dX6_doWord_419 : decode cX6_doWord 419 = .ok (.iconst 1, 1) := by decide +kernel
theorem dX6_doWord_420 : decode cX6_doWord 420 = .ok (.goto 4, 3) := by decide +kernel
theorem dX6_doWord_423 : decode cX6_doWord 423 = .ok (.iconst 0, 1) := by decide +kernel
theorem dX6_doWord_424 : decode cX6_doWord 424 = .ok (.invokestatic 235, 3) := by decide +kernel
theorem dX6_doWord_427 : decode cX6_doWord 427 = .ok (.ireturn, 1) := by decide +kernel
theorem dX6_doWord_428 : decode cX6_doWord 428 = .ok (.aload_n 1, 1) := by decide +kernel
theorem dX6_doWord_429 : decode cX6_doWord 429 = .ok (.iload_n 3, 1) := by decide +kernel
theorem dX6_doWord_430 : decode cX6_doWord 430 = .ok (.aload 7, 2) := by decide +kernel
theorem dX6_doWord_432 : decode cX6_doWord 432 = .ok (.aload 8, 2) := by decide +kernel
theorem dX6_doWord_434 : decode cX6_doWord 434 = .ok (.invokevirtual 239, 3) := by decide +kernel
theorem dX6_doWord_437 : decode cX6_doWord 437 = .ok (.ifCond .gt 7, 3) := by decide +kernel
theorem dX6_doWord_440 : decode cX6_doWord 440 = .ok (.iconst 1, 1) := by decide +kernel
theorem dX6_doWord_441 : decode cX6_doWord 441 = .ok (.goto 4, 3) := by decide +kernel
theorem dX6_doWord_444 : decode cX6_doWord 444 = .ok (.iconst 0, 1) := by decide +kernel
theorem dX6_doWord_445 : decode cX6_doWord 445 = .ok (.invokestatic 235, 3) := by decide +kernel
theorem dX6_doWord_448 : decode cX6_doWord 448 = .ok (.ireturn, 1) := by decide +kernel
theorem dX6_doWord_449 : decode cX6_doWord 449 = .ok (.aload_n 1, 1) := by decide +kernel
theorem dX6_doWord_450 : decode cX6_doWord 450 = .ok (.iload_n 3, 1) := by decide +kernel
theorem dX6_doWord_451 : decode cX6_doWord 451 = .ok (.invokestatic 194, 3) := by decide +kernel
theorem dX6_doWord_454 : decode cX6_doWord 454 = .ok (.invokestatic 243, 3) := by decide +kernel
theorem dX6_doWord_457 : decode cX6_doWord 457 = .ok (.ireturn, 1) := by decide +kernel
theorem dX6_doWord_458 : decode cX6_doWord 458 = .ok (.aload_n 0, 1) := by decide +kernel
theorem dX6_doWord_459 : decode cX6_doWord 459 = .ok (.aload_n 1, 1) := by decide +kernel
theorem dX6_doWord_460 : decode cX6_doWord 460 = .ok (.invokevirtual 247, 3) := by decide +kernel
theorem dX6_doWord_463 : decode cX6_doWord 463 = .ok (.ireturn, 1) := by decide +kernel
theorem dX6_doWord_464 : decode cX6_doWord 464 = .ok (.aload_n 1, 1) := by decide +kernel
theorem dX6_doWord_465 : decode cX6_doWord 465 = .ok (.getfield 250, 3) := by decide +kernel
theorem dX6_doWord_468 : decode cX6_doWord 468 = .ok (.iload_n 3, 1) := by decide +kernel
theorem dX6_doWord_469 : decode cX6_doWord 469 = .ok (.invokestatic 194, 3) := by decide +kernel
theorem dX6_doWord_472 : decode cX6_doWord 472 = .ok (.invokevirtual 254, 3) := by decide +kernel
theorem dX6_doWord_475 : decode cX6_doWord 475 = .ok (.ifCond .eq 7, 3) := by decide +kernel
theorem dX6_doWord_478 : decode cX6_doWord 478 = .ok (.iconst (-1), 1) := by decide +kernel
theorem dX6_doWord_479 : decode cX6_doWord 479 = .ok (.goto 4, 3) := by decide +kernel
theorem dX6_doWord_482 : decode cX6_doWord 482 = .ok (.iconst 5, 1) := by decide +kernel
theorem dX6_doWord_483 : decode cX6_doWord 483 = .ok (.ireturn, 1) := by decide +kernel
theorem dX6_doWord_484 : decode cX6_doWord 484 = .ok (.aload_n 1, 1) := by decide +kernel
theorem dX6_doWord_485 : decode cX6_doWord 485 = .ok (.invokestatic 260, 3) := by decide +kernel
theorem dX6_doWord_488 : decode cX6_doWord 488 = .ok (.ireturn, 1) := by decide +kernel
theorem dX6_doWord_489 : decode cX6_doWord 489 = .ok (.aload_n 0, 1) := by decide +kernel
theorem dX6_doWord_490 : decode cX6_doWord 490 = .ok (.aload_n 1, 1) := by decide +kernel
theorem dX6_doWord_491 : decode cX6_doWord 491 = .ok (.aload 6, 2) := by decide +kernel
theorem dX6_doWord_493 : decode cX6_doWord 493 = .ok (.invokevirtual 202, 3) := by decide +kernel
theorem dX6_doWord_496 : decode cX6_doWord 496 = .ok (.ireturn, 1) := by decide +kernel
theorem dX6_doWord_497 : decode cX6_doWord 497 = .ok (.aload 6, 2) := by decide +kernel
theorem dX6_doWord_499 : decode cX6_doWord 499 = .ok (.iconst 2, 1) := by decide +kernel
theorem dX6_doWord_500 : decode cX6_doWord 500 = .ok (.aload_n 1, 1) := by decide +kernel
theorem dX6_doWord_501 : decode cX6_doWord 501 = .ok (.getfield 88, 3) := by decide +kernel
theorem dX6_doWord_504 : decode cX6_doWord 504 = .ok (.invokestatic 213, 3) := by decide +kernel
theorem dX6_doWord_507 : decode cX6_doWord 507 = .ok (.ireturn, 1) := by decide +kernel
theorem dX6_doWord_508 : decode cX6_doWord 508 = .ok (.aload_n 0, 1) := by decide +kernel
theorem dX6_doWord_509 : decode cX6_doWord 509 = .ok (.aload_n 1, 1) := by decide +kernel
theorem dX6_doWord_510 : decode cX6_doWord 510 = .ok (.iconst 0, 1) := by decide +kernel
theorem dX6_doWord_511 : decode cX6_doWord 511 = .ok (.aload 6, 2) := by decide +kernel
theorem dX6_doWord_513 : decode cX6_doWord 513 = .ok (.iload 4, 2) := by decide +kernel
theorem dX6_doWord_515 : decode cX6_doWord 515 = .ok (.invokestatic 194, 3) := by decide +kernel
theorem dX6_doWord_518 : decode cX6_doWord 518 = .ok (.aload 8, 2) := by decide +kernel
theorem dX6_doWord_520 : decode cX6_doWord 520 = .ok (.invokevirtual 263, 3) := by decide +kernel
theorem dX6_doWord_523 : decode cX6_doWord 523 = .ok (.ireturn, 1) := by decide +kernel
theorem dX6_doWord_524 : decode cX6_doWord 524 = .ok (.aload_n 0, 1) := by decide +kernel
theorem dX6_doWord_525 : decode cX6_doWord 525 = .ok (.aload_n 1, 1) := by decide +kernel
theorem dX6_doWord_526 : decode cX6_doWord 526 = .ok (.iconst 1, 1) := by decide +kernel
theorem dX6_doWord_527 : decode cX6_doWord 527 = .ok (.aload 6, 2) := by decide +kernel
theorem dX6_doWord_529 : decode cX6_doWord 529 = .ok (.iload 4, 2) := by decide +kernel
theorem dX6_doWord_531 : decode cX6_doWord 531 = .ok (.invokestatic 194, 3) := by decide +kernel
theorem dX6_doWord_534 : decode cX6_doWord 534 = .ok (.aload 8, 2) := by decide +kernel
theorem dX6_doWord_536 : decode cX6_doWord 536 = .ok (.invokevirtual 263, 3) := by decide +kernel
theorem dX6_doWord_539 : decode cX6_doWord 539 = .ok (.ireturn, 1) := by decide +kernel
theorem dX6_doWord_540 : decode cX6_doWord 540 = .ok (.aload_n 0, 1) := by decide +kernel
theorem dX6_doWord_541 : decode cX6_doWord 541 = .ok (.aload 6, 2) := by decide +kernel
theorem dX6_doWord_543 : decode cX6_doWord 543 = .ok (.aload 7, 2) := by decide +kernel
theorem dX6_doWord_545 : decode cX6_doWord 545 = .ok (.invokevirtual 267, 3) := by decide +kernel
theorem dX6_doWord_548 : decode cX6_doWord 548 = .ok (.ireturn, 1) := by decide +kernel
theorem dX6_doWord_549 : decode cX6_doWord 549 = .ok (.aload_n 1, 1) := by decide +kernel
theorem dX6_doWord_550 : decode cX6_doWord 550 = .ok (.aload 7, 2) := by decide +kernel
theorem dX6_doWord_552 : decode cX6_doWord 552 = .ok (.iload_n 3, 1) := by decide +kernel
theorem dX6_doWord_553 : decode cX6_doWord 553 = .ok (.invokestatic 270, 3) := by decide +kernel
theorem dX6_doWord_556 : decode cX6_doWord 556 = .ok (.ireturn, 1) := by decide +kernel
theorem dX6_doWord_557 : decode cX6_doWord 557 = .ok (.aload_n 1, 1) := by decide +kernel
theorem dX6_doWord_558 : decode cX6_doWord 558 = .ok (.invokestatic 274, 3) := by decide +kernel
theorem dX6_doWord_561 : decode cX6_doWord 561 = .ok (.ireturn, 1) := by decide +kernel
theorem dX6_doWord_562 : decode cX6_doWord 562 = .ok (.aload_n 1, 1) := by decide +kernel
theorem dX6_doWord_563 : decode cX6_doWord 563 = .ok (.invokestatic 277, 3) := by decide +kernel
theorem dX6_doWord_566 : decode cX6_doWord 566 = .ok (.ireturn, 1) := by decide +kernel
theorem dX6_doWord_567 : decode cX6_doWord 567 = .ok (.aload_n 1, 1) := by decide +kernel
theorem dX6_doWord_568 : decode cX6_doWord 568 = .ok (.iload_n 3, 1) := by decide +kernel
theorem dX6_doWord_569 : decode cX6_doWord 569 = .ok (.invokestatic 194, 3) := by decide +kernel
theorem dX6_doWord_572 : decode cX6_doWord 572 = .ok (.invokestatic 280, 3) := by decide +kernel
theorem dX6_doWord_575 : decode cX6_doWord 575 = .ok (.ireturn, 1) := by decide +kernel
theorem dX6_doWord_576 : decode cX6_doWord 576 = .ok (.aload_n 0, 1) := by decide +kernel
theorem dX6_doWord_577 : decode cX6_doWord 577 = .ok (.aload_n 1, 1) := by decide +kernel
theorem dX6_doWord_578 : decode cX6_doWord 578 = .ok (.iload_n 3, 1) := by decide +kernel
theorem dX6_doWord_579 : decode cX6_doWord 579 = .ok (.invokestatic 194, 3) := by decide +kernel
theorem dX6_doWord_582 : decode cX6_doWord 582 = .ok (.aload 7, 2) := by decide +kernel
theorem dX6_doWord_584 : decode cX6_doWord 584 = .ok (.iload 5, 2) := by decide +kernel
theorem dX6_doWord_586 : decode cX6_doWord 586 = .ok (.invokestatic 194, 3) := by decide +kernel
theorem dX6_doWord_589 : decode cX6_doWord 589 = .ok (.invokevirtual 283, 3) := by decide +kernel
theorem dX6_doWord_592 : decode cX6_doWord 592 = .ok (.ireturn, 1) := by decide +kernel
theorem dX6_doWord_593 : decode cX6_doWord 593 = .ok (.aload_n 0, 1) := by decide +kernel
theorem dX6_doWord_594 : decode cX6_doWord 594 = .ok (.aload_n 1, 1) := by decide +kernel
theorem dX6_doWord_595 : decode cX6_doWord 595 = .ok (.aload_n 0, 1) := by decide +kernel
theorem dX6_doWord_596 : decode cX6_doWord 596 = .ok (.aload 6, 2) := by decide +kernel
theorem dX6_doWord_598 : decode cX6_doWord 598 = .ok (.invokevirtual 287, 3) := by decide +kernel
theorem dX6_doWord_601 : decode cX6_doWord 601 = .ok (.invokevirtual 291, 3) := by decide +kernel
theorem dX6_doWord_604 : decode cX6_doWord 604 = .ok (.ireturn, 1) := by decide +kernel
theorem dX6_doWord_605 : decode cX6_doWord 605 = .ok (.aload_n 1, 1) := by decide +kernel
theorem dX6_doWord_606 : decode cX6_doWord 606 = .ok (.aload_n 0, 1) := by decide +kernel
theorem dX6_doWord_607 : decode cX6_doWord 607 = .ok (.aload 6, 2) := by decide +kernel
theorem dX6_doWord_609 : decode cX6_doWord 609 = .ok (.invokevirtual 287, 3) := by decide +kernel
theorem dX6_doWord_612 : decode cX6_doWord 612 = .ok (.invokestatic 295, 3) := by decide +kernel
theorem dX6_doWord_615 : decode cX6_doWord 615 = .ok (.ireturn, 1) := by decide +kernel
theorem dX6_doWord_616 : decode cX6_doWord 616 = .ok (.aload_n 0, 1) := by decide +kernel
theorem dX6_doWord_617 : decode cX6_doWord 617 = .ok (.aload_n 1, 1) := by decide +kernel
theorem dX6_doWord_618 : decode cX6_doWord 618 = .ok (.aload 6, 2) := by decide +kernel
theorem dX6_doWord_620 : decode cX6_doWord 620 = .ok (.aload_n 0, 1) := by decide +kernel
theorem dX6_doWord_621 : decode cX6_doWord 621 = .ok (.aload 7, 2) := by decide +kernel
theorem dX6_doWord_623 : decode cX6_doWord 623 = .ok (.invokevirtual 287, 3) := by decide +kernel
theorem dX6_doWord_626 : decode cX6_doWord 626 = .ok (.invokevirtual 298, 3) := by decide +kernel
theorem dX6_doWord_629 : decode cX6_doWord 629 = .ok (.ireturn, 1) := by decide +kernel
theorem dX6_doWord_630 : decode cX6_doWord 630 = .ok (.aload_n 0, 1) := by decide +kernel
theorem dX6_doWord_631 : decode cX6_doWord 631 = .ok (.aload_n 1, 1) := by decide +kernel
theorem dX6_doWord_632 : decode cX6_doWord 632 = .ok (.aload_n 0, 1) := by decide +kernel
theorem dX6_doWord_633 : decode cX6_doWord 633 = .ok (.aload 6, 2) := by decide +kernel
theorem dX6_doWord_635 : decode cX6_doWord 635 = .ok (.invokevirtual 287, 3) := by decide +kernel
theorem dX6_doWord_638 : decode cX6_doWord 638 = .ok (.aload 7, 2) := by decide +kernel
theorem dX6_doWord_640 : decode cX6_doWord 640 = .ok (.invokevirtual 302, 3) := by decide +kernel
theorem dX6_doWord_643 : decode cX6_doWord 643 = .ok (.ireturn, 1) := by decide +kernel
theorem dX6_doWord_644 : decode cX6_doWord 644 = .ok (.aload_n 1, 1) := by decide +kernel
theorem dX6_doWord_645 : decode cX6_doWord 645 = .ok (.iload_n 3, 1) := by decide +kernel
theorem dX6_doWord_646 : decode cX6_doWord 646 = .ok (.ifCond .eq 7, 3) := by decide +kernel
theorem dX6_doWord_649 : decode cX6_doWord 649 = .ok (.iconst 1, 1) := by decide +kernel
theorem dX6_doWord_650 : decode cX6_doWord 650 = .ok (.goto 4, 3) := by decide +kernel
theorem dX6_doWord_653 : decode cX6_doWord 653 = .ok (.iconst 0, 1) := by decide +kernel
theorem dX6_doWord_654 : decode cX6_doWord 654 = .ok (.invokestatic 306, 3) := by decide +kernel
theorem dX6_doWord_657 : decode cX6_doWord 657 = .ok (.ireturn, 1) := by decide +kernel
theorem dX6_doWord_658 : decode cX6_doWord 658 = .ok (.aload_n 0, 1) := by decide +kernel
theorem dX6_doWord_659 : decode cX6_doWord 659 = .ok (.aload_n 1, 1) := by decide +kernel
theorem dX6_doWord_660 : decode cX6_doWord 660 = .ok (.iload_n 3, 1) := by decide +kernel
theorem dX6_doWord_661 : decode cX6_doWord 661 = .ok (.bipush 100, 2) := by decide +kernel
theorem dX6_doWord_663 : decode cX6_doWord 663 = .ok (.invokestatic 161, 3) := by decide +kernel
theorem dX6_doWord_666 : decode cX6_doWord 666 = .ok (.invokevirtual 310, 3) := by decide +kernel
theorem dX6_doWord_669 : decode cX6_doWord 669 = .ok (.ireturn, 1) := by decide +kernel
theorem dX6_doWord_670 : decode cX6_doWord 670 = .ok (.aload 6, 2) := by decide +kernel
theorem dX6_doWord_672 : decode cX6_doWord 672 = .ok (.aload_n 0, 1) := by decide +kernel
theorem dX6_doWord_673 : decode cX6_doWord 673 = .ok (.iload 4, 2) := by decide +kernel
theorem dX6_doWord_675 : decode cX6_doWord 675 = .ok (.bipush 100, 2) := by decide +kernel
theorem dX6_doWord_677 : decode cX6_doWord 677 = .ok (.invokestatic 161, 3) := by decide +kernel
theorem dX6_doWord_680 : decode cX6_doWord 680 = .ok (.invokevirtual 313, 3) := by decide +kernel
theorem dX6_doWord_683 : decode cX6_doWord 683 = .ok (.invokestatic 316, 3) := by decide +kernel
theorem dX6_doWord_686 : decode cX6_doWord 686 = .ok (.ireturn, 1) := by decide +kernel
theorem dX6_doWord_687 : decode cX6_doWord 687 = .ok (.aload_n 0, 1) := by decide +kernel
theorem dX6_doWord_688 : decode cX6_doWord 688 = .ok (.aload 6, 2) := by decide +kernel
theorem dX6_doWord_690 : decode cX6_doWord 690 = .ok (.invokevirtual 320, 3) := by decide +kernel
theorem dX6_doWord_693 : decode cX6_doWord 693 = .ok (.ireturn, 1) := by decide +kernel
theorem dX6_give_0 : decode cX6_give 0 = .ok (.aload_n 0, 1) := by decide +kernel
theorem dX6_give_1 : decode cX6_give 1 = .ok (.iload_n 1, 1) := by decide +kernel
theorem dX6_give_2 : decode cX6_give 2 = .ok (.iload_n 2, 1) := by decide +kernel
theorem dX6_give_3 : decode cX6_give 3 = .ok (.invokevirtual 95, 3) := by decide +kernel
theorem dX6_give_6 : decode cX6_give 6 = .ok (.iconst (-1), 1) := by decide +kernel
theorem dX6_give_7 : decode cX6_give 7 = .ok (.ireturn, 1) := by decide +kernel
theorem dX6_giveCopy_0 : decode cX6_giveCopy 0 = .ok (.aload_n 0, 1) := by decide +kernel
theorem dX6_giveCopy_1 : decode cX6_giveCopy 1 = .ok (.aload_n 1, 1) := by decide +kernel
theorem dX6_giveCopy_2 : decode cX6_giveCopy 2 = .ok (.invokevirtual 323, 3) := by decide +kernel
theorem dX6_giveCopy_5 : decode cX6_giveCopy 5 = .ok (.iconst (-1), 1) := by decide +kernel
theorem dX6_giveCopy_6 : decode cX6_giveCopy 6 = .ok (.ireturn, 1) := by decide +kernel
theorem dX6_areNumbers_0 : decode cX6_areNumbers 0 = .ok (.aload_n 0, 1) := by decide +kernel
theorem dX6_areNumbers_1 : decode cX6_areNumbers 1 = .ok (.invokevirtual 167, 3) := by decide +kernel
theorem dX6_areNumbers_4 : decode cX6_areNumbers 4 = .ok (.ifCond .ne 14, 3) := by decide +kernel
theorem dX6_areNumbers_7 : decode cX6_areNumbers 7 = .ok (.aload_n 1, 1) := by decide +kernel
theorem dX6_areNumbers_8 : decode cX6_areNumbers 8 = .ok (.invokevirtual 167, 3) := by decide +kernel
theorem dX6_areNumbers_11 : decode cX6_areNumbers 11 = .ok (.ifCond .ne 7, 3) := by decide +kernel
theorem dX6_areNumbers_14 : decode cX6_areNumbers 14 = .ok (.iconst 1, 1) := by decide +kernel
theorem dX6_areNumbers_15 : decode cX6_areNumbers 15 = .ok (.goto 4, 3) := by decide +kernel
theorem dX6_areNumbers_18 : decode cX6_areNumbers 18 = .ok (.iconst 0, 1) := by decide +kernel
theorem dX6_areNumbers_19 : decode cX6_areNumbers 19 = .ok (.ireturn, 1) := by decide +kernel
theorem dX6_goOn_0 : decode cX6_goOn 0 = .ok (.iload_n 2, 1) := by decide +kernel
theorem dX6_goOn_1 : decode cX6_goOn 1 = .ok (.ifCond .eq 11, 3) := by decide +kernel
theorem dX6_goOn_4 : decode cX6_goOn 4 = .ok (.aload_n 0, 1) := by decide +kernel
theorem dX6_goOn_5 : decode cX6_goOn 5 = .ok (.iload_n 1, 1) := by decide +kernel
theorem dX6_goOn_6 : decode cX6_goOn 6 = .ok (.invokestatic 194, 3) := by decide +kernel
theorem dX6_goOn_9 : decode cX6_goOn 9 = .ok (.putfield 175, 3) := by decide +kernel
theorem dX6_goOn_12 : decode cX6_goOn 12 = .ok (.iconst (-1), 1) := by decide +kernel
theorem dX6_goOn_13 : decode cX6_goOn 13 = .ok (.ireturn, 1) := by decide +kernel
theorem dX6_callWord_0 : decode cX6_callWord 0 = .ok (.aload_n 0, 1) := by decide +kernel
theorem dX6_callWord_1 : decode cX6_callWord 1 = .ok (.getfield 250, 3) := by decide +kernel
theorem dX6_callWord_4 : decode cX6_callWord 4 = .ok (.aload_n 0, 1) := by decide +kernel
theorem dX6_callWord_5 : decode cX6_callWord 5 = .ok (.getfield 175, 3) := by decide +kernel
theorem dX6_callWord_8 : decode cX6_callWord 8 = .ok (.invokevirtual 327, 3) := by decide +kernel
theorem dX6_callWord_11 : decode cX6_callWord 11 = .ok (.ifCond .ne 5, 3) := by decide +kernel
theorem dX6_callWord_14 : decode cX6_callWord 14 = .ok (.iconst 5, 1) := by decide +kernel
theorem dX6_callWord_15 : decode cX6_callWord 15 = .ok (.ireturn, 1) := by decide +kernel
theorem dX6_callWord_16 : decode cX6_callWord 16 = .ok (.aload_n 0, 1) := by decide +kernel
theorem dX6_callWord_17 : decode cX6_callWord 17 = .ok (.iload_n 1, 1) := by decide +kernel
theorem dX6_callWord_18 : decode cX6_callWord 18 = .ok (.putfield 175, 3) := by decide +kernel
theorem dX6_callWord_21 : decode cX6_callWord 21 = .ok (.iconst (-1), 1) := by decide +kernel
theorem dX6_callWord_22 : decode cX6_callWord 22 = .ok (.ireturn, 1) := by decide +kernel
theorem dX6_comeBack_0 : decode cX6_comeBack 0 = .ok (.aload_n 1, 1) := by decide +kernel
theorem dX6_comeBack_1 : decode cX6_comeBack 1 = .ok (.getfield 250, 3) := by decide +kernel
theorem dX6_comeBack_4 : decode cX6_comeBack 4 = .ok (.invokevirtual 330, 3) := by decide +kernel
theorem dX6_comeBack_7 : decode cX6_comeBack 7 = .ok (.istore_n 2, 1) := by decide +kernel
theorem dX6_comeBack_8 : decode cX6_comeBack 8 = .ok (.iload_n 2, 1) := by decide +kernel
theorem dX6_comeBack_9 : decode cX6_comeBack 9 = .ok (.iconst (-1), 1) := by decide +kernel
theorem dX6_comeBack_10 : decode cX6_comeBack 10 = .ok (.if_icmp .ne 9, 3) := by decide +kernel
theorem dX6_comeBack_13 : decode cX6_comeBack 13 = .ok (.aload_n 0, 1) := by decide +kernel
theorem dX6_comeBack_14 : decode cX6_comeBack 14 = .ok (.aload_n 1, 1) := by decide +kernel
theorem dX6_comeBack_15 : decode cX6_comeBack 15 = .ok (.invokevirtual 209, 3) := by decide +kernel
theorem dX6_comeBack_18 : decode cX6_comeBack 18 = .ok (.ireturn, 1) := by decide +kernel
theorem dX6_comeBack_19 : decode cX6_comeBack 19 = .ok (.aload_n 1, 1) := by decide +kernel
theorem dX6_comeBack_20 : decode cX6_comeBack 20 = .ok (.iload_n 2, 1) := by decide +kernel
theorem dX6_comeBack_21 : decode cX6_comeBack 21 = .ok (.putfield 175, 3) := by decide +kernel
theorem dX6_comeBack_24 : decode cX6_comeBack 24 = .ok (.iconst (-1), 1) := by decide +kernel
theorem dX6_comeBack_25 : decode cX6_comeBack 25 = .ok (.ireturn, 1) := by decide +kernel
theorem dX6_end_0 : decode cX6_end 0 = .ok (.aload_n 0, 1) := by decide +kernel
theorem dX6_end_1 : decode cX6_end 1 = .ok (.getfield 46, 3) := by decide +kernel
theorem dX6_end_4 : decode cX6_end 4 = .ok (.iconst 1, 1) := by decide +kernel
theorem dX6_end_5 : decode cX6_end 5 = .ok (.iconst 0, 1) := by decide +kernel
theorem dX6_end_6 : decode cX6_end 6 = .ok (.invokevirtual 95, 3) := by decide +kernel
theorem dX6_end_9 : decode cX6_end 9 = .ok (.aload_n 0, 1) := by decide +kernel
theorem dX6_end_10 : decode cX6_end 10 = .ok (.aload_n 1, 1) := by decide +kernel
theorem dX6_end_11 : decode cX6_end 11 = .ok (.aload_n 0, 1) := by decide +kernel
theorem dX6_end_12 : decode cX6_end 12 = .ok (.getfield 46, 3) := by decide +kernel
theorem dX6_end_15 : decode cX6_end 15 = .ok (.invokevirtual 333, 3) := by decide +kernel
theorem dX6_end_18 : decode cX6_end 18 = .ok (.iconst (-1), 1) := by decide +kernel
theorem dX6_end_19 : decode cX6_end 19 = .ok (.ireturn, 1) := by decide +kernel
theorem dX6_dropCatch_0 : decode cX6_dropCatch 0 = .ok (.aload_n 0, 1) := by decide +kernel
theorem dX6_dropCatch_1 : decode cX6_dropCatch 1 = .ok (.getfield 250, 3) := by decide +kernel
theorem dX6_dropCatch_4 : decode cX6_dropCatch 4 = .ok (.invokevirtual 337, 3) := by decide +kernel
theorem dX6_dropCatch_7 : decode cX6_dropCatch 7 = .ok (.iconst (-1), 1) := by decide +kernel
theorem dX6_dropCatch_8 : decode cX6_dropCatch 8 = .ok (.ireturn, 1) := by decide +kernel
theorem dX6_fail_0 : decode cX6_fail 0 = .ok (.aload_n 1, 1) := by decide +kernel
theorem dX6_fail_1 : decode cX6_fail 1 = .ok (.getfield 250, 3) := by decide +kernel
theorem dX6_fail_4 : decode cX6_fail 4 = .ok (.invokevirtual 339, 3) := by decide +kernel
theorem dX6_fail_7 : decode cX6_fail 7 = .ok (.istore_n 3, 1) := by decide +kernel
theorem dX6_fail_8 : decode cX6_fail 8 = .ok (.iload_n 3, 1) := by decide +kernel
theorem dX6_fail_9 : decode cX6_fail 9 = .ok (.iconst (-1), 1) := by decide +kernel
theorem dX6_fail_10 : decode cX6_fail 10 = .ok (.if_icmp .ne 12, 3) := by decide +kernel
theorem dX6_fail_13 : decode cX6_fail 13 = .ok (.aload_n 0, 1) := by decide +kernel
theorem dX6_fail_14 : decode cX6_fail 14 = .ok (.aload_n 1, 1) := by decide +kernel
theorem dX6_fail_15 : decode cX6_fail 15 = .ok (.aload_n 2, 1) := by decide +kernel
theorem dX6_fail_16 : decode cX6_fail 16 = .ok (.invokevirtual 333, 3) := by decide +kernel
theorem dX6_fail_19 : decode cX6_fail 19 = .ok (.goto 17, 3) := by decide +kernel
theorem dX6_fail_22 : decode cX6_fail 22 = .ok (.aload_n 1, 1) := by decide +kernel
theorem dX6_fail_23 : decode cX6_fail 23 = .ok (.iconst 0, 1) := by decide +kernel
theorem dX6_fail_24 : decode cX6_fail 24 = .ok (.invokevirtual 137, 3) := by decide +kernel
theorem dX6_fail_27 : decode cX6_fail 27 = .ok (.aload_n 2, 1) := by decide +kernel
theorem dX6_fail_28 : decode cX6_fail 28 = .ok (.invokevirtual 323, 3) := by decide +kernel
theorem dX6_fail_31 : decode cX6_fail 31 = .ok (.aload_n 1, 1) := by decide +kernel
theorem dX6_fail_32 : decode cX6_fail 32 = .ok (.iload_n 3, 1) := by decide +kernel
theorem dX6_fail_33 : decode cX6_fail 33 = .ok (.putfield 175, 3) := by decide +kernel
theorem dX6_fail_36 : decode cX6_fail 36 = .ok (.iconst (-1), 1) := by decide +kernel
theorem dX6_fail_37 : decode cX6_fail 37 = .ok (.ireturn, 1) := by decide +kernel
theorem dX6_beget_0 : decode cX6_beget 0 = .ok (.aload_n 0, 1) := by decide +kernel
theorem dX6_beget_1 : decode cX6_beget 1 = .ok (.getfield 49, 3) := by decide +kernel
theorem dX6_beget_4 : decode cX6_beget 4 = .ok (.bipush 60, 2) := by decide +kernel
theorem dX6_beget_6 : decode cX6_beget 6 = .ok (.if_icmp .lt 5, 3) := by decide +kernel
theorem dX6_beget_9 : decode cX6_beget 9 = .ok (.iconst 5, 1) := by decide +kernel
theorem dX6_beget_10 : decode cX6_beget 10 = .ok (.ireturn, 1) := by decide +kernel
theorem dX6_beget_11 : decode cX6_beget 11 = .ok (.aload_n 0, 1) := by decide +kernel
theorem dX6_beget_12 : decode cX6_beget 12 = .ok (.iload 4, 2) := by decide +kernel
theorem dX6_beget_14 : decode cX6_beget 14 = .ok (.aload_n 1, 1) := by decide +kernel
theorem dX6_beget_15 : decode cX6_beget 15 = .ok (.getfield 342, 3) := by decide +kernel
theorem dX6_beget_18 : decode cX6_beget 18 = .ok (.invokevirtual 84, 3) := by decide +kernel
theorem dX6_beget_21 : decode cX6_beget 21 = .ok (.astore 6, 2) := by decide +kernel
theorem dX6_beget_23 : decode cX6_beget 23 = .ok (.aload 6, 2) := by decide +kernel
theorem dX6_beget_25 : decode cX6_beget 25 = .ok (.iconst 0, 1) := by decide +kernel
theorem dX6_beget_26 : decode cX6_beget 26 = .ok (.invokevirtual 137, 3) := by decide +kernel
theorem dX6_beget_29 : decode cX6_beget 29 = .ok (.iconst 2, 1) := by decide +kernel
theorem dX6_beget_30 : decode cX6_beget 30 = .ok (.aload_n 1, 1) := by decide +kernel
theorem dX6_beget_31 : decode cX6_beget 31 = .ok (.getfield 88, 3) := by decide +kernel
theorem dX6_beget_34 : decode cX6_beget 34 = .ok (.invokevirtual 95, 3) := by decide +kernel
theorem dX6_beget_37 : decode cX6_beget 37 = .ok (.aload 6, 2) := by decide +kernel
theorem dX6_beget_39 : decode cX6_beget 39 = .ok (.iconst 1, 1) := by decide +kernel
theorem dX6_beget_40 : decode cX6_beget 40 = .ok (.invokevirtual 137, 3) := by decide +kernel
theorem dX6_beget_43 : decode cX6_beget 43 = .ok (.aload 5, 2) := by decide +kernel
theorem dX6_beget_45 : decode cX6_beget 45 = .ok (.invokevirtual 323, 3) := by decide +kernel
theorem dX6_beget_48 : decode cX6_beget 48 = .ok (.iload_n 2, 1) := by decide +kernel
theorem dX6_beget_49 : decode cX6_beget 49 = .ok (.ifCond .eq 9, 3) := by decide +kernel
theorem dX6_beget_52 : decode cX6_beget 52 = .ok (.aload_n 1, 1) := by decide +kernel
theorem dX6_beget_53 : decode cX6_beget 53 = .ok (.aload 6, 2) := by decide +kernel
theorem dX6_beget_55 : decode cX6_beget 55 = .ok (.invokevirtual 345, 3) := by decide +kernel
theorem dX6_beget_58 : decode cX6_beget 58 = .ok (.aload_n 3, 1) := by decide +kernel
theorem dX6_beget_59 : decode cX6_beget 59 = .ok (.iconst 2, 1) := by decide +kernel
theorem dX6_beget_60 : decode cX6_beget 60 = .ok (.aload 6, 2) := by decide +kernel
theorem dX6_beget_62 : decode cX6_beget 62 = .ok (.getfield 88, 3) := by decide +kernel
theorem dX6_beget_65 : decode cX6_beget 65 = .ok (.invokevirtual 95, 3) := by decide +kernel
theorem dX6_beget_68 : decode cX6_beget 68 = .ok (.iconst (-1), 1) := by decide +kernel
theorem dX6_beget_69 : decode cX6_beget 69 = .ok (.ireturn, 1) := by decide +kernel
theorem dX6_post_0 : decode cX6_post 0 = .ok (.aload_n 1, 1) := by decide +kernel
theorem dX6_post_1 : decode cX6_post 1 = .ok (.invokevirtual 167, 3) := by decide +kernel
theorem dX6_post_4 : decode cX6_post 4 = .ok (.iconst 2, 1) := by decide +kernel
theorem dX6_post_5 : decode cX6_post 5 = .ok (.if_icmp .eq 13, 3) := by decide +kernel
theorem dX6_post_8 : decode cX6_post 8 = .ok (.aload_n 1, 1) := by decide +kernel
theorem dX6_post_9 : decode cX6_post 9 = .ok (.invokevirtual 167, 3) := by decide +kernel
theorem dX6_post_12 : decode cX6_post 12 = .ok (.iconst 1, 1) := by decide +kernel
theorem dX6_post_13 : decode cX6_post 13 = .ok (.if_icmp .eq 5, 3) := by decide +kernel
theorem dX6_post_16 : decode cX6_post 16 = .ok (.iconst 4, 1) := by decide +kernel
theorem dX6_post_17 : decode cX6_post 17 = .ok (.ireturn, 1) := by decide +kernel
theorem dX6_post_18 : decode cX6_post 18 = .ok (.aload_n 1, 1) := by decide +kernel
theorem dX6_post_19 : decode cX6_post 19 = .ok (.invokevirtual 167, 3) := by decide +kernel
theorem dX6_post_22 : decode cX6_post 22 = .ok (.iconst 1, 1) := by decide +kernel
theorem dX6_post_23 : decode cX6_post 23 = .ok (.if_icmp .ne 14, 3) := by decide +kernel
theorem dX6_post_26 : decode cX6_post 26 = .ok (.aload_n 0, 1) := by decide +kernel
theorem dX6_post_27 : decode cX6_post 27 = .ok (.aload_n 1, 1) := by decide +kernel
theorem dX6_post_28 : decode cX6_post 28 = .ok (.invokevirtual 170, 3) := by decide +kernel
theorem dX6_post_31 : decode cX6_post 31 = .ok (.invokevirtual 313, 3) := by decide +kernel
theorem dX6_post_34 : decode cX6_post 34 = .ok (.goto 8, 3) := by decide +kernel
theorem dX6_post_37 : decode cX6_post 37 = .ok (.aload_n 0, 1) := by decide +kernel
theorem dX6_post_38 : decode cX6_post 38 = .ok (.aload_n 1, 1) := by decide +kernel
theorem dX6_post_39 : decode cX6_post 39 = .ok (.invokevirtual 287, 3) := by decide +kernel
theorem dX6_post_42 : decode cX6_post 42 = .ok (.astore_n 3, 1) := by decide +kernel
theorem dX6_post_43 : decode cX6_post 43 = .ok (.aload_n 3, 1) := by decide +kernel
theorem dX6_post_44 : decode cX6_post 44 = .ok (.ifnull 10, 3) := by decide +kernel
theorem dX6_post_47 : decode cX6_post 47 = .ok (.aload_n 0, 1) := by decide +kernel
theorem dX6_post_48 : decode cX6_post 48 = .ok (.aload_n 3, 1) := by decide +kernel
theorem dX6_post_49 : decode cX6_post 49 = .ok (.aload_n 2, 1) := by decide +kernel
theorem dX6_post_50 : decode cX6_post 50 = .ok (.invokevirtual 99, 3) := by decide +kernel
theorem dX6_post_53 : decode cX6_post 53 = .ok (.pop, 1) := by decide +kernel
theorem dX6_post_54 : decode cX6_post 54 = .ok (.iconst (-1), 1) := by decide +kernel
theorem dX6_post_55 : decode cX6_post 55 = .ok (.ireturn, 1) := by decide +kernel
theorem dX6_findByName_0 : decode cX6_findByName 0 = .ok (.iload_n 1, 1) := by decide +kernel
theorem dX6_findByName_1 : decode cX6_findByName 1 = .ok (.bipush 100, 2) := by decide +kernel
theorem dX6_findByName_3 : decode cX6_findByName 3 = .ok (.invokestatic 74, 3) := by decide +kernel
theorem dX6_findByName_6 : decode cX6_findByName 6 = .ok (.ifCond .eq 12, 3) := by decide +kernel
theorem dX6_findByName_9 : decode cX6_findByName 9 = .ok (.aload_n 0, 1) := by decide +kernel
theorem dX6_findByName_10 : decode cX6_findByName 10 = .ok (.getfield 19, 3) := by decide +kernel
theorem dX6_findByName_13 : decode cX6_findByName 13 = .ok (.iload_n 1, 1) := by decide +kernel
theorem dX6_findByName_14 : decode cX6_findByName 14 = .ok (.aaload, 1) := by decide +kernel
theorem dX6_findByName_15 : decode cX6_findByName 15 = .ok (.goto 4, 3) := by decide +kernel
theorem dX6_findByName_18 : decode cX6_findByName 18 = .ok (.aconst_null, 1) := by decide +kernel
theorem dX6_findByName_19 : decode cX6_findByName 19 = .ok (.areturn, 1) := by decide +kernel
theorem dX6_readMail_0 : decode cX6_readMail 0 = .ok (.aload_n 0, 1) := by decide +kernel
theorem dX6_readMail_1 : decode cX6_readMail 1 = .ok (.getfield 114, 3) := by decide +kernel
theorem dX6_readMail_4 : decode cX6_readMail 4 = .ok (.invokevirtual 348, 3) := by decide +kernel
theorem dX6_readMail_7 : decode cX6_readMail 7 = .ok (.astore_n 3, 1) := by decide +kernel
theorem dX6_readMail_8 : decode cX6_readMail 8 = .ok (.aload_n 3, 1) := by decide +kernel
theorem dX6_readMail_9 : decode cX6_readMail 9 = .ok (.ifnonnull 14, 3) := by decide +kernel
theorem dX6_readMail_12 : decode cX6_readMail 12 = .ok (.aload_n 0, 1) := by decide +kernel
theorem dX6_readMail_13 : decode cX6_readMail 13 = .ok (.iload_n 2, 1) := by decide +kernel
theorem dX6_readMail_14 : decode cX6_readMail 14 = .ok (.invokestatic 194, 3) := by decide +kernel
theorem dX6_readMail_17 : decode cX6_readMail 17 = .ok (.putfield 175, 3) := by decide +kernel
theorem dX6_readMail_20 : decode cX6_readMail 20 = .ok (.goto 8, 3) := by decide +kernel
theorem dX6_readMail_23 : decode cX6_readMail 23 = .ok (.aload_n 1, 1) := by decide +kernel
theorem dX6_readMail_24 : decode cX6_readMail 24 = .ok (.aload_n 3, 1) := by decide +kernel
theorem dX6_readMail_25 : decode cX6_readMail 25 = .ok (.invokevirtual 323, 3) := by decide +kernel
theorem dX6_readMail_28 : decode cX6_readMail 28 = .ok (.iconst (-1), 1) := by decide +kernel
theorem dX6_readMail_29 : decode cX6_readMail 29 = .ok (.ireturn, 1) := by decide +kernel
theorem dX6_dropMail_0 : decode cX6_dropMail 0 = .ok (.aload_n 0, 1) := by decide +kernel
theorem dX6_dropMail_1 : decode cX6_dropMail 1 = .ok (.getfield 114, 3) := by decide +kernel
theorem dX6_dropMail_4 : decode cX6_dropMail 4 = .ok (.invokevirtual 352, 3) := by decide +kernel
theorem dX6_dropMail_7 : decode cX6_dropMail 7 = .ok (.iconst (-1), 1) := by decide +kernel
theorem dX6_dropMail_8 : decode cX6_dropMail 8 = .ok (.ireturn, 1) := by decide +kernel
theorem dX6_advance_0 : decode cX6_advance 0 = .ok (.aload_n 0, 1) := by decide +kernel
theorem dX6_advance_1 : decode cX6_advance 1 = .ok (.getfield 114, 3) := by decide +kernel
theorem dX6_advance_4 : decode cX6_advance 4 = .ok (.invokevirtual 355, 3) := by decide +kernel
theorem dX6_advance_7 : decode cX6_advance 7 = .ok (.iconst (-1), 1) := by decide +kernel
theorem dX6_advance_8 : decode cX6_advance 8 = .ok (.ireturn, 1) := by decide +kernel
theorem dX6_await_0 : decode cX6_await 0 = .ok (.aload_n 0, 1) := by decide +kernel
theorem dX6_await_1 : decode cX6_await 1 = .ok (.getfield 114, 3) := by decide +kernel
theorem dX6_await_4 : decode cX6_await 4 = .ok (.invokevirtual 348, 3) := by decide +kernel
theorem dX6_await_7 : decode cX6_await 7 = .ok (.ifnull 11, 3) := by decide +kernel
theorem dX6_await_10 : decode cX6_await 10 = .ok (.aload_n 0, 1) := by decide +kernel
theorem dX6_await_11 : decode cX6_await 11 = .ok (.iload_n 1, 1) := by decide +kernel
theorem dX6_await_12 : decode cX6_await 12 = .ok (.putfield 175, 3) := by decide +kernel
theorem dX6_await_15 : decode cX6_await 15 = .ok (.goto 12, 3) := by decide +kernel
theorem dX6_await_18 : decode cX6_await 18 = .ok (.aload_n 0, 1) := by decide +kernel
theorem dX6_await_19 : decode cX6_await 19 = .ok (.iload_n 1, 1) := by decide +kernel
theorem dX6_await_20 : decode cX6_await 20 = .ok (.iload_n 1, 1) := by decide +kernel
theorem dX6_await_21 : decode cX6_await 21 = .ok (.ldc2_w 178, 3) := by decide +kernel
theorem dX6_await_24 : decode cX6_await 24 = .ok (.invokevirtual 357, 3) := by decide +kernel
theorem dX6_await_27 : decode cX6_await 27 = .ok (.iconst (-1), 1) := by decide +kernel
theorem dX6_await_28 : decode cX6_await 28 = .ok (.ireturn, 1) := by decide +kernel
theorem dX6_awaitFor_0 : decode cX6_awaitFor 0 = .ok (.aload_n 1, 1) := by decide +kernel
theorem dX6_awaitFor_1 : decode cX6_awaitFor 1 = .ok (.getfield 114, 3) := by decide +kernel
theorem dX6_awaitFor_4 : decode cX6_awaitFor 4 = .ok (.invokevirtual 348, 3) := by decide +kernel
theorem dX6_awaitFor_7 : decode cX6_awaitFor 7 = .ok (.ifnull 10, 3) := by decide +kernel
theorem dX6_awaitFor_10 : decode cX6_awaitFor 10 = .ok (.aload_n 1, 1) := by decide +kernel
theorem dX6_awaitFor_11 : decode cX6_awaitFor 11 = .ok (.iload_n 2, 1) := by decide +kernel
theorem dX6_awaitFor_12 : decode cX6_awaitFor 12 = .ok (.putfield 175, 3) := by decide +kernel
theorem dX6_awaitFor_15 : decode cX6_awaitFor 15 = .ok (.iconst (-1), 1) := by decide +kernel
theorem dX6_awaitFor_16 : decode cX6_awaitFor 16 = .ok (.ireturn, 1) := by decide +kernel
theorem dX6_awaitFor_17 : decode cX6_awaitFor 17 = .ok (.aload_n 3, 1) := by decide +kernel
theorem dX6_awaitFor_18 : decode cX6_awaitFor 18 = .ok (.invokevirtual 167, 3) := by decide +kernel
theorem dX6_awaitFor_21 : decode cX6_awaitFor 21 = .ok (.ifCond .eq 5, 3) := by decide +kernel
theorem dX6_awaitFor_24 : decode cX6_awaitFor 24 = .ok (.iconst 4, 1) := by decide +kernel
theorem dX6_awaitFor_25 : decode cX6_awaitFor 25 = .ok (.ireturn, 1) := by decide +kernel
theorem dX6_awaitFor_26 : decode cX6_awaitFor 26 = .ok (.aload_n 3, 1) := by decide +kernel
theorem dX6_awaitFor_27 : decode cX6_awaitFor 27 = .ok (.invokevirtual 170, 3) := by decide +kernel
theorem dX6_awaitFor_30 : decode cX6_awaitFor 30 = .ok (.iconst 1, 1) := by decide +kernel
theorem dX6_awaitFor_31 : decode cX6_awaitFor 31 = .ok (.if_icmp .ge 19, 3) := by decide +kernel
theorem dX6_awaitFor_34 : decode cX6_awaitFor 34 = .ok (.aload_n 1, 1) := by decide +kernel
theorem dX6_awaitFor_35 : decode cX6_awaitFor 35 = .ok (.getfield 114, 3) := by decide +kernel
theorem dX6_awaitFor_38 : decode cX6_awaitFor 38 = .ok (.invokevirtual 118, 3) := by decide +kernel
theorem dX6_awaitFor_41 : decode cX6_awaitFor 41 = .ok (.aload_n 1, 1) := by decide +kernel
theorem dX6_awaitFor_42 : decode cX6_awaitFor 42 = .ok (.iload 4, 2) := by decide +kernel
theorem dX6_awaitFor_44 : decode cX6_awaitFor 44 = .ok (.putfield 175, 3) := by decide +kernel
theorem dX6_awaitFor_47 : decode cX6_awaitFor 47 = .ok (.goto 21, 3) := by decide +kernel
theorem dX6_awaitFor_50 : decode cX6_awaitFor 50 = .ok (.aload_n 1, 1) := by decide +kernel
theorem dX6_awaitFor_51 : decode cX6_awaitFor 51 = .ok (.iload_n 2, 1) := by decide +kernel
theorem dX6_awaitFor_52 : decode cX6_awaitFor 52 = .ok (.iload 4, 2) := by decide +kernel
theorem dX6_awaitFor_54 : decode cX6_awaitFor 54 = .ok (.aload_n 0, 1) := by decide +kernel
theorem dX6_awaitFor_55 : decode cX6_awaitFor 55 = .ok (.getfield 68, 3) := by decide +kernel
theorem dX6_awaitFor_58 : decode cX6_awaitFor 58 = .ok (.i2l, 1) := by decide +kernel
theorem dX6_awaitFor_59 : decode cX6_awaitFor 59 = .ok (.aload_n 3, 1) := by decide +kernel
theorem dX6_awaitFor_60 : decode cX6_awaitFor 60 = .ok (.invokevirtual 170, 3) := by decide +kernel
theorem dX6_awaitFor_63 : decode cX6_awaitFor 63 = .ok (.i2l, 1) := by decide +kernel
theorem dX6_awaitFor_64 : decode cX6_awaitFor 64 = .ok (.ladd, 1) := by decide +kernel
theorem dX6_awaitFor_65 : decode cX6_awaitFor 65 = .ok (.invokevirtual 357, 3) := by decide +kernel
theorem dX6_awaitFor_68 : decode cX6_awaitFor 68 = .ok (.iconst (-1), 1) := by decide +kernel
theorem dX6_awaitFor_69 : decode cX6_awaitFor 69 = .ok (.ireturn, 1) := by decide +kernel
theorem dX6_deliver_0 : decode cX6_deliver 0 = .ok (.aload_n 1, 1) := by decide +kernel
theorem dX6_deliver_1 : decode cX6_deliver 1 = .ok (.getfield 142, 3) := by decide +kernel
theorem dX6_deliver_4 : decode cX6_deliver 4 = .ok (.iconst 2, 1) := by decide +kernel
theorem dX6_deliver_5 : decode cX6_deliver 5 = .ok (.if_icmp .ne 5, 3) := by decide +kernel
theorem dX6_deliver_8 : decode cX6_deliver 8 = .ok (.iconst 0, 1) := by decide +kernel
theorem dX6_deliver_9 : decode cX6_deliver 9 = .ok (.ireturn, 1) := by decide +kernel
theorem dX6_deliver_10 : decode cX6_deliver 10 = .ok (.aload_n 1, 1) := by decide +kernel
theorem dX6_deliver_11 : decode cX6_deliver 11 = .ok (.getfield 114, 3) := by decide +kernel
theorem dX6_deliver_14 : decode cX6_deliver 14 = .ok (.invokevirtual 361, 3) := by decide +kernel
theorem dX6_deliver_17 : decode cX6_deliver 17 = .ok (.astore_n 3, 1) := by decide +kernel
theorem dX6_deliver_18 : decode cX6_deliver 18 = .ok (.aload_n 3, 1) := by decide +kernel
theorem dX6_deliver_19 : decode cX6_deliver 19 = .ok (.ifnonnull 5, 3) := by decide +kernel
theorem dX6_deliver_22 : decode cX6_deliver 22 = .ok (.iconst 0, 1) := by decide +kernel
theorem dX6_deliver_23 : decode cX6_deliver 23 = .ok (.ireturn, 1) := by decide +kernel
theorem dX6_deliver_24 : decode cX6_deliver 24 = .ok (.aload_n 3, 1) := by decide +kernel
theorem dX6_deliver_25 : decode cX6_deliver 25 = .ok (.aload_n 2, 1) := by decide +kernel
theorem dX6_deliver_26 : decode cX6_deliver 26 = .ok (.invokevirtual 323, 3) := by decide +kernel
theorem dX6_deliver_29 : decode cX6_deliver 29 = .ok (.aload_n 0, 1) := by decide +kernel
theorem dX6_deliver_30 : decode cX6_deliver 30 = .ok (.dup, 1) := by decide +kernel
theorem dX6_deliver_31 : decode cX6_deliver 31 = .ok (.getfield 71, 3) := by decide +kernel
theorem dX6_deliver_34 : decode cX6_deliver 34 = .ok (.iconst 1, 1) := by decide +kernel
theorem dX6_deliver_35 : decode cX6_deliver 35 = .ok (.iadd, 1) := by decide +kernel
theorem dX6_deliver_36 : decode cX6_deliver 36 = .ok (.putfield 71, 3) := by decide +kernel
theorem dX6_deliver_39 : decode cX6_deliver 39 = .ok (.aload_n 1, 1) := by decide +kernel
theorem dX6_deliver_40 : decode cX6_deliver 40 = .ok (.getfield 142, 3) := by decide +kernel
theorem dX6_deliver_43 : decode cX6_deliver 43 = .ok (.iconst 1, 1) := by decide +kernel
theorem dX6_deliver_44 : decode cX6_deliver 44 = .ok (.if_icmp .ne 12, 3) := by decide +kernel
theorem dX6_deliver_47 : decode cX6_deliver 47 = .ok (.aload_n 0, 1) := by decide +kernel
theorem dX6_deliver_48 : decode cX6_deliver 48 = .ok (.aload_n 1, 1) := by decide +kernel
theorem dX6_deliver_49 : decode cX6_deliver 49 = .ok (.aload_n 1, 1) := by decide +kernel
theorem dX6_deliver_50 : decode cX6_deliver 50 = .ok (.getfield 364, 3) := by decide +kernel
theorem dX6_deliver_53 : decode cX6_deliver 53 = .ok (.invokevirtual 126, 3) := by decide +kernel
theorem dX6_deliver_56 : decode cX6_deliver 56 = .ok (.iconst 1, 1) := by decide +kernel
theorem dX6_deliver_57 : decode cX6_deliver 57 = .ok (.ireturn, 1) := by decide +kernel
theorem dX6_link_0 : decode cX6_link 0 = .ok (.aload_n 2, 1) := by decide +kernel
theorem dX6_link_1 : decode cX6_link 1 = .ok (.ifnonnull 5, 3) := by decide +kernel
theorem dX6_link_4 : decode cX6_link 4 = .ok (.iconst 4, 1) := by decide +kernel
theorem dX6_link_5 : decode cX6_link 5 = .ok (.ireturn, 1) := by decide +kernel
theorem dX6_link_6 : decode cX6_link 6 = .ok (.aload_n 2, 1) := by decide +kernel
theorem dX6_link_7 : decode cX6_link 7 = .ok (.getfield 142, 3) := by decide +kernel
theorem dX6_link_10 : decode cX6_link 10 = .ok (.iconst 2, 1) := by decide +kernel
theorem dX6_link_11 : decode cX6_link 11 = .ok (.if_icmp .ne 29, 3) := by decide +kernel
theorem dX6_link_14 : decode cX6_link 14 = .ok (.aload_n 0, 1) := by decide +kernel
theorem dX6_link_15 : decode cX6_link 15 = .ok (.getfield 46, 3) := by decide +kernel
theorem dX6_link_18 : decode cX6_link 18 = .ok (.iconst 1, 1) := by decide +kernel
theorem dX6_link_19 : decode cX6_link 19 = .ok (.iconst 3, 1) := by decide +kernel
theorem dX6_link_20 : decode cX6_link 20 = .ok (.invokevirtual 95, 3) := by decide +kernel
theorem dX6_link_23 : decode cX6_link 23 = .ok (.aload_n 0, 1) := by decide +kernel
theorem dX6_link_24 : decode cX6_link 24 = .ok (.aload_n 1, 1) := by decide +kernel
theorem dX6_link_25 : decode cX6_link 25 = .ok (.aload_n 2, 1) := by decide +kernel
theorem dX6_link_26 : decode cX6_link 26 = .ok (.getfield 88, 3) := by decide +kernel
theorem dX6_link_29 : decode cX6_link 29 = .ok (.aload_n 0, 1) := by decide +kernel
theorem dX6_link_30 : decode cX6_link 30 = .ok (.getfield 46, 3) := by decide +kernel
theorem dX6_link_33 : decode cX6_link 33 = .ok (.iconst 0, 1) := by decide +kernel
theorem dX6_link_34 : decode cX6_link 34 = .ok (.invokevirtual 367, 3) := by decide +kernel
theorem dX6_link_37 : decode cX6_link 37 = .ok (.goto 13, 3) := by decide +kernel
theorem dX6_link_40 : decode cX6_link 40 = .ok (.aload_n 2, 1) := by decide +kernel
theorem dX6_link_41 : decode cX6_link 41 = .ok (.aload_n 1, 1) := by decide +kernel
theorem dX6_link_42 : decode cX6_link 42 = .ok (.if_acmp .eq 8, 3) := by decide +kernel
theorem dX6_link_45 : decode cX6_link 45 = .ok (.aload_n 1, 1) := by decide +kernel
theorem dX6_link_46 : decode cX6_link 46 = .ok (.aload_n 2, 1) := by decide +kernel
theorem dX6_link_47 : decode cX6_link 47 = .ok (.invokevirtual 345, 3) := by decide +kernel
theorem dX6_link_50 : decode cX6_link 50 = .ok (.iconst (-1), 1) := by decide +kernel
theorem dX6_link_51 : decode cX6_link 51 = .ok (.ireturn, 1) := by decide +kernel
theorem dX6_unlink_0 : decode cX6_unlink 0 = .ok (.aload_n 1, 1) := by decide +kernel
theorem dX6_unlink_1 : decode cX6_unlink 1 = .ok (.ifnonnull 5, 3) := by decide +kernel
theorem dX6_unlink_4 : decode cX6_unlink 4 = .ok (.iconst 4, 1) := by decide +kernel
theorem dX6_unlink_5 : decode cX6_unlink 5 = .ok (.ireturn, 1) := by decide +kernel
theorem dX6_unlink_6 : decode cX6_unlink 6 = .ok (.aload_n 0, 1) := by decide +kernel
theorem dX6_unlink_7 : decode cX6_unlink 7 = .ok (.aload_n 1, 1) := by decide +kernel
theorem dX6_unlink_8 : decode cX6_unlink 8 = .ok (.invokevirtual 371, 3) := by decide +kernel
theorem dX6_unlink_11 : decode cX6_unlink 11 = .ok (.iconst (-1), 1) := by decide +kernel
theorem dX6_unlink_12 : decode cX6_unlink 12 = .ok (.ireturn, 1) := by decide +kernel
theorem dX6_watch_0 : decode cX6_watch 0 = .ok (.aload_n 3, 1) := by decide +kernel
theorem dX6_watch_1 : decode cX6_watch 1 = .ok (.ifnonnull 5, 3) := by decide +kernel
theorem dX6_watch_4 : decode cX6_watch 4 = .ok (.iconst 4, 1) := by decide +kernel
theorem dX6_watch_5 : decode cX6_watch 5 = .ok (.ireturn, 1) := by decide +kernel
theorem dX6_watch_6 : decode cX6_watch 6 = .ok (.aload_n 0, 1) := by decide +kernel
theorem dX6_watch_7 : decode cX6_watch 7 = .ok (.getfield 28, 3) := by decide +kernel
theorem dX6_watch_10 : decode cX6_watch 10 = .ok (.invokevirtual 374, 3) := by decide +kernel
theorem dX6_watch_13 : decode cX6_watch 13 = .ok (.ifCond .eq 5, 3) := by decide +kernel
theorem dX6_watch_16 : decode cX6_watch 16 = .ok (.iconst 5, 1) := by decide +kernel
theorem dX6_watch_17 : decode cX6_watch 17 = .ok (.ireturn, 1) := by decide +kernel
theorem dX6_watch_18 : decode cX6_watch 18 = .ok (.aload_n 0, 1) := by decide +kernel
theorem dX6_watch_19 : decode cX6_watch 19 = .ok (.getfield 28, 3) := by decide +kernel
theorem dX6_watch_22 : decode cX6_watch 22 = .ok (.invokevirtual 378, 3) := by decide +kernel
theorem dX6_watch_25 : decode cX6_watch 25 = .ok (.istore 4, 2) := by decide +kernel
theorem dX6_watch_27 : decode cX6_watch 27 = .ok (.aload_n 2, 1) := by decide +kernel
theorem dX6_watch_28 : decode cX6_watch 28 = .ok (.iconst 0, 1) := by decide +kernel
theorem dX6_watch_29 : decode cX6_watch 29 = .ok (.iload 4, 2) := by decide +kernel
theorem dX6_watch_31 : decode cX6_watch 31 = .ok (.invokevirtual 95, 3) := by decide +kernel
theorem dX6_watch_34 : decode cX6_watch 34 = .ok (.aload_n 3, 1) := by decide +kernel
theorem dX6_watch_35 : decode cX6_watch 35 = .ok (.getfield 142, 3) := by decide +kernel
theorem dX6_watch_38 : decode cX6_watch 38 = .ok (.iconst 2, 1) := by decide +kernel
theorem dX6_watch_39 : decode cX6_watch 39 = .ok (.if_icmp .ne 42, 3) := by decide +kernel
theorem dX6_watch_42 : decode cX6_watch 42 = .ok (.aload_n 0, 1) := by decide +kernel
theorem dX6_watch_43 : decode cX6_watch 43 = .ok (.getfield 46, 3) := by decide +kernel
theorem dX6_watch_46 : decode cX6_watch 46 = .ok (.iconst 1, 1) := by decide +kernel
theorem dX6_watch_47 : decode cX6_watch 47 = .ok (.iconst 3, 1) := by decide +kernel
theorem dX6_watch_48 : decode cX6_watch 48 = .ok (.invokevirtual 95, 3) := by decide +kernel
theorem dX6_watch_51 : decode cX6_watch 51 = .ok (.aload_n 0, 1) := by decide +kernel
theorem dX6_watch_52 : decode cX6_watch 52 = .ok (.getfield 42, 3) := by decide +kernel
theorem dX6_watch_55 : decode cX6_watch 55 = .ok (.iload 4, 2) := by decide +kernel
theorem dX6_watch_57 : decode cX6_watch 57 = .ok (.aload_n 3, 1) := by decide +kernel
theorem dX6_watch_58 : decode cX6_watch 58 = .ok (.getfield 88, 3) := by decide +kernel
theorem dX6_watch_61 : decode cX6_watch 61 = .ok (.aload_n 0, 1) := by decide +kernel
theorem dX6_watch_62 : decode cX6_watch 62 = .ok (.getfield 46, 3) := by decide +kernel
theorem dX6_watch_65 : decode cX6_watch 65 = .ok (.invokevirtual 381, 3) := by decide +kernel
theorem dX6_watch_68 : decode cX6_watch 68 = .ok (.aload_n 0, 1) := by decide +kernel
theorem dX6_watch_69 : decode cX6_watch 69 = .ok (.aload_n 1, 1) := by decide +kernel
theorem dX6_watch_70 : decode cX6_watch 70 = .ok (.aload_n 0, 1) := by decide +kernel
theorem dX6_watch_71 : decode cX6_watch 71 = .ok (.getfield 42, 3) := by decide +kernel
theorem dX6_watch_74 : decode cX6_watch 74 = .ok (.invokevirtual 99, 3) := by decide +kernel
theorem dX6_watch_77 : decode cX6_watch 77 = .ok (.pop, 1) := by decide +kernel
theorem dX6_watch_78 : decode cX6_watch 78 = .ok (.goto 20, 3) := by decide +kernel
theorem dX6_watch_81 : decode cX6_watch 81 = .ok (.aload_n 0, 1) := by decide +kernel
theorem dX6_watch_82 : decode cX6_watch 82 = .ok (.getfield 28, 3) := by decide +kernel
theorem dX6_watch_85 : decode cX6_watch 85 = .ok (.iload 4, 2) := by decide +kernel
theorem dX6_watch_87 : decode cX6_watch 87 = .ok (.aload_n 1, 1) := by decide +kernel
theorem dX6_watch_88 : decode cX6_watch 88 = .ok (.getfield 88, 3) := by decide +kernel
theorem dX6_watch_91 : decode cX6_watch 91 = .ok (.aload_n 3, 1) := by decide +kernel
theorem dX6_watch_92 : decode cX6_watch 92 = .ok (.getfield 88, 3) := by decide +kernel
theorem dX6_watch_95 : decode cX6_watch 95 = .ok (.invokevirtual 385, 3) := by decide +kernel
theorem dX6_watch_98 : decode cX6_watch 98 = .ok (.iconst (-1), 1) := by decide +kernel
theorem dX6_watch_99 : decode cX6_watch 99 = .ok (.ireturn, 1) := by decide +kernel
theorem dX6_exit_0 : decode cX6_exit 0 = .ok (.aload_n 2, 1) := by decide +kernel
theorem dX6_exit_1 : decode cX6_exit 1 = .ok (.ifnonnull 5, 3) := by decide +kernel
theorem dX6_exit_4 : decode cX6_exit 4 = .ok (.iconst 4, 1) := by decide +kernel
theorem dX6_exit_5 : decode cX6_exit 5 = .ok (.ireturn, 1) := by decide +kernel
theorem dX6_exit_6 : decode cX6_exit 6 = .ok (.aload_n 0, 1) := by decide +kernel
theorem dX6_exit_7 : decode cX6_exit 7 = .ok (.aload_n 2, 1) := by decide +kernel
theorem dX6_exit_8 : decode cX6_exit 8 = .ok (.aload_n 1, 1) := by decide +kernel
theorem dX6_exit_9 : decode cX6_exit 9 = .ok (.getfield 88, 3) := by decide +kernel
theorem dX6_exit_12 : decode cX6_exit 12 = .ok (.aload_n 3, 1) := by decide +kernel
theorem dX6_exit_13 : decode cX6_exit 13 = .ok (.iconst 1, 1) := by decide +kernel
theorem dX6_exit_14 : decode cX6_exit 14 = .ok (.invokevirtual 367, 3) := by decide +kernel
theorem dX6_exit_17 : decode cX6_exit 17 = .ok (.iconst (-1), 1) := by decide +kernel
theorem dX6_exit_18 : decode cX6_exit 18 = .ok (.ireturn, 1) := by decide +kernel
theorem dX6_trap_0 : decode cX6_trap 0 = .ok (.aload_n 0, 1) := by decide +kernel
theorem dX6_trap_1 : decode cX6_trap 1 = .ok (.iload_n 1, 1) := by decide +kernel
theorem dX6_trap_2 : decode cX6_trap 2 = .ok (.putfield 389, 3) := by decide +kernel
theorem dX6_trap_5 : decode cX6_trap 5 = .ok (.iconst (-1), 1) := by decide +kernel
theorem dX6_trap_6 : decode cX6_trap 6 = .ok (.ireturn, 1) := by decide +kernel
theorem dX6_takeName_0 : decode cX6_takeName 0 = .ok (.aload_n 1, 1) := by decide +kernel
theorem dX6_takeName_1 : decode cX6_takeName 1 = .ok (.getfield 393, 3) := by decide +kernel
theorem dX6_takeName_4 : decode cX6_takeName 4 = .ok (.iconst (-1), 1) := by decide +kernel
theorem dX6_takeName_5 : decode cX6_takeName 5 = .ok (.if_icmp .ne 12, 3) := by decide +kernel
theorem dX6_takeName_8 : decode cX6_takeName 8 = .ok (.aload_n 0, 1) := by decide +kernel
theorem dX6_takeName_9 : decode cX6_takeName 9 = .ok (.getfield 19, 3) := by decide +kernel
theorem dX6_takeName_12 : decode cX6_takeName 12 = .ok (.iload_n 2, 1) := by decide +kernel
theorem dX6_takeName_13 : decode cX6_takeName 13 = .ok (.aaload, 1) := by decide +kernel
theorem dX6_takeName_14 : decode cX6_takeName 14 = .ok (.ifnull 5, 3) := by decide +kernel
theorem dX6_takeName_17 : decode cX6_takeName 17 = .ok (.iconst 4, 1) := by decide +kernel
theorem dX6_takeName_18 : decode cX6_takeName 18 = .ok (.ireturn, 1) := by decide +kernel
theorem dX6_takeName_19 : decode cX6_takeName 19 = .ok (.aload_n 1, 1) := by decide +kernel
theorem dX6_takeName_20 : decode cX6_takeName 20 = .ok (.iload_n 2, 1) := by decide +kernel
theorem dX6_takeName_21 : decode cX6_takeName 21 = .ok (.putfield 393, 3) := by decide +kernel
theorem dX6_takeName_24 : decode cX6_takeName 24 = .ok (.aload_n 0, 1) := by decide +kernel
theorem dX6_takeName_25 : decode cX6_takeName 25 = .ok (.getfield 19, 3) := by decide +kernel
theorem dX6_takeName_28 : decode cX6_takeName 28 = .ok (.iload_n 2, 1) := by decide +kernel
theorem dX6_takeName_29 : decode cX6_takeName 29 = .ok (.aload_n 1, 1) := by decide +kernel
theorem dX6_takeName_30 : decode cX6_takeName 30 = .ok (.aastore, 1) := by decide +kernel
theorem dX6_takeName_31 : decode cX6_takeName 31 = .ok (.iconst (-1), 1) := by decide +kernel
theorem dX6_takeName_32 : decode cX6_takeName 32 = .ok (.ireturn, 1) := by decide +kernel
theorem dX6_lookUp_0 : decode cX6_lookUp 0 = .ok (.aload_n 1, 1) := by decide +kernel
theorem dX6_lookUp_1 : decode cX6_lookUp 1 = .ok (.ifnonnull 12, 3) := by decide +kernel
theorem dX6_lookUp_4 : decode cX6_lookUp 4 = .ok (.aload_n 0, 1) := by decide +kernel
theorem dX6_lookUp_5 : decode cX6_lookUp 5 = .ok (.iconst 1, 1) := by decide +kernel
theorem dX6_lookUp_6 : decode cX6_lookUp 6 = .ok (.iconst 3, 1) := by decide +kernel
theorem dX6_lookUp_7 : decode cX6_lookUp 7 = .ok (.invokevirtual 95, 3) := by decide +kernel
theorem dX6_lookUp_10 : decode cX6_lookUp 10 = .ok (.goto 12, 3) := by decide +kernel
theorem dX6_lookUp_13 : decode cX6_lookUp 13 = .ok (.aload_n 0, 1) := by decide +kernel
theorem dX6_lookUp_14 : decode cX6_lookUp 14 = .ok (.iconst 2, 1) := by decide +kernel
theorem dX6_lookUp_15 : decode cX6_lookUp 15 = .ok (.aload_n 1, 1) := by decide +kernel
theorem dX6_lookUp_16 : decode cX6_lookUp 16 = .ok (.getfield 88, 3) := by decide +kernel
theorem dX6_lookUp_19 : decode cX6_lookUp 19 = .ok (.invokevirtual 95, 3) := by decide +kernel
theorem dX6_lookUp_22 : decode cX6_lookUp 22 = .ok (.iconst (-1), 1) := by decide +kernel
theorem dX6_lookUp_23 : decode cX6_lookUp 23 = .ok (.ireturn, 1) := by decide +kernel
theorem dX6_print_0 : decode cX6_print 0 = .ok (.aload_n 0, 1) := by decide +kernel
theorem dX6_print_1 : decode cX6_print 1 = .ok (.getfield 35, 3) := by decide +kernel
theorem dX6_print_4 : decode cX6_print 4 = .ok (.aload_n 1, 1) := by decide +kernel
theorem dX6_print_5 : decode cX6_print 5 = .ok (.invokevirtual 396, 3) := by decide +kernel
theorem dX6_print_8 : decode cX6_print 8 = .ok (.iconst (-1), 1) := by decide +kernel
theorem dX6_print_9 : decode cX6_print 9 = .ok (.ireturn, 1) := by decide +kernel
theorem dX6_getExit_0 : decode cX6_getExit 0 = .ok (.aload_n 1, 1) := by decide +kernel
theorem dX6_getExit_1 : decode cX6_getExit 1 = .ok (.getfield 142, 3) := by decide +kernel
theorem dX6_getExit_4 : decode cX6_getExit 4 = .ok (.iconst 2, 1) := by decide +kernel
theorem dX6_getExit_5 : decode cX6_getExit 5 = .ok (.if_icmp .ne 4, 3) := by decide +kernel
theorem dX6_getExit_8 : decode cX6_getExit 8 = .ok (.return_, 1) := by decide +kernel
theorem dX6_getExit_9 : decode cX6_getExit 9 = .ok (.iload 4, 2) := by decide +kernel
theorem dX6_getExit_11 : decode cX6_getExit 11 = .ok (.ifCond .eq 32, 3) := by decide +kernel
theorem dX6_getExit_14 : decode cX6_getExit 14 = .ok (.aload_n 3, 1) := by decide +kernel
theorem dX6_getExit_15 : decode cX6_getExit 15 = .ok (.iconst 1, 1) := by decide +kernel
theorem dX6_getExit_16 : decode cX6_getExit 16 = .ok (.invokevirtual 398, 3) := by decide +kernel
theorem dX6_getExit_19 : decode cX6_getExit 19 = .ok (.ifCond .eq 24, 3) := by decide +kernel
theorem dX6_getExit_22 : decode cX6_getExit 22 = .ok (.aload_n 0, 1) := by decide +kernel
theorem dX6_getExit_23 : decode cX6_getExit 23 = .ok (.getfield 46, 3) := by decide +kernel
theorem dX6_getExit_26 : decode cX6_getExit 26 = .ok (.iconst 1, 1) := by decide +kernel
theorem dX6_getExit_27 : decode cX6_getExit 27 = .ok (.iconst 2, 1) := by decide +kernel
theorem dX6_getExit_28 : decode cX6_getExit 28 = .ok (.invokevirtual 95, 3) := by decide +kernel
theorem dX6_getExit_31 : decode cX6_getExit 31 = .ok (.aload_n 0, 1) := by decide +kernel
theorem dX6_getExit_32 : decode cX6_getExit 32 = .ok (.aload_n 1, 1) := by decide +kernel
theorem dX6_getExit_33 : decode cX6_getExit 33 = .ok (.aload_n 0, 1) := by decide +kernel
theorem dX6_getExit_34 : decode cX6_getExit 34 = .ok (.getfield 46, 3) := by decide +kernel
theorem dX6_getExit_37 : decode cX6_getExit 37 = .ok (.invokevirtual 333, 3) := by decide +kernel
theorem dX6_getExit_40 : decode cX6_getExit 40 = .ok (.goto 54, 3) := by decide +kernel
theorem dX6_getExit_43 : decode cX6_getExit 43 = .ok (.aload_n 1, 1) := by decide +kernel
theorem dX6_getExit_44 : decode cX6_getExit 44 = .ok (.getfield 389, 3) := by decide +kernel
theorem dX6_getExit_47 : decode cX6_getExit 47 = .ok (.ifCond .eq 25, 3) := by decide +kernel
theorem dX6_getExit_50 : decode cX6_getExit 50 = .ok (.aload_n 0, 1) := by decide +kernel
theorem dX6_getExit_51 : decode cX6_getExit 51 = .ok (.getfield 42, 3) := by decide +kernel
theorem dX6_getExit_54 : decode cX6_getExit 54 = .ok (.iload_n 2, 1) := by decide +kernel
theorem dX6_getExit_55 : decode cX6_getExit 55 = .ok (.aload_n 3, 1) := by decide +kernel
theorem dX6_getExit_56 : decode cX6_getExit 56 = .ok (.invokevirtual 401, 3) := by decide +kernel
theorem dX6_getExit_59 : decode cX6_getExit 59 = .ok (.aload_n 0, 1) := by decide +kernel
theorem dX6_getExit_60 : decode cX6_getExit 60 = .ok (.aload_n 1, 1) := by decide +kernel
theorem dX6_getExit_61 : decode cX6_getExit 61 = .ok (.aload_n 0, 1) := by decide +kernel
theorem dX6_getExit_62 : decode cX6_getExit 62 = .ok (.getfield 42, 3) := by decide +kernel
theorem dX6_getExit_65 : decode cX6_getExit 65 = .ok (.invokevirtual 99, 3) := by decide +kernel
theorem dX6_getExit_68 : decode cX6_getExit 68 = .ok (.pop, 1) := by decide +kernel
theorem dX6_getExit_69 : decode cX6_getExit 69 = .ok (.goto 25, 3) := by decide +kernel
theorem dX6_getExit_72 : decode cX6_getExit 72 = .ok (.iload_n 2, 1) := by decide +kernel
theorem dX6_getExit_73 : decode cX6_getExit 73 = .ok (.aload_n 1, 1) := by decide +kernel
theorem dX6_getExit_74 : decode cX6_getExit 74 = .ok (.getfield 88, 3) := by decide +kernel
theorem dX6_getExit_77 : decode cX6_getExit 77 = .ok (.if_icmp .eq 11, 3) := by decide +kernel
theorem dX6_getExit_80 : decode cX6_getExit 80 = .ok (.aload_n 3, 1) := by decide +kernel
theorem dX6_getExit_81 : decode cX6_getExit 81 = .ok (.iconst 0, 1) := by decide +kernel
theorem dX6_getExit_82 : decode cX6_getExit 82 = .ok (.invokevirtual 398, 3) := by decide +kernel
theorem dX6_getExit_85 : decode cX6_getExit 85 = .ok (.ifCond .ne 9, 3) := by decide +kernel
theorem dX6_getExit_88 : decode cX6_getExit 88 = .ok (.aload_n 0, 1) := by decide +kernel
theorem dX6_getExit_89 : decode cX6_getExit 89 = .ok (.aload_n 1, 1) := by decide +kernel
theorem dX6_getExit_90 : decode cX6_getExit 90 = .ok (.aload_n 3, 1) := by decide +kernel
theorem dX6_getExit_91 : decode cX6_getExit 91 = .ok (.invokevirtual 333, 3) := by decide +kernel
theorem dX6_getExit_94 : decode cX6_getExit 94 = .ok (.return_, 1) := by decide +kernel
theorem dX6_die_0 : decode cX6_die 0 = .ok (.aload_n 1, 1) := by decide +kernel
theorem dX6_die_1 : decode cX6_die 1 = .ok (.getfield 142, 3) := by decide +kernel
theorem dX6_die_4 : decode cX6_die 4 = .ok (.iconst 2, 1) := by decide +kernel
theorem dX6_die_5 : decode cX6_die 5 = .ok (.if_icmp .eq 12, 3) := by decide +kernel
theorem dX6_die_8 : decode cX6_die 8 = .ok (.aload_n 0, 1) := by decide +kernel
theorem dX6_die_9 : decode cX6_die 9 = .ok (.getfield 53, 3) := by decide +kernel
theorem dX6_die_12 : decode cX6_die 12 = .ok (.bipush 60, 2) := by decide +kernel
theorem dX6_die_14 : decode cX6_die 14 = .ok (.if_icmp .lt 4, 3) := by decide +kernel
theorem dX6_die_17 : decode cX6_die 17 = .ok (.return_, 1) := by decide +kernel
theorem dX6_die_18 : decode cX6_die 18 = .ok (.aload_n 1, 1) := by decide +kernel
theorem dX6_die_19 : decode cX6_die 19 = .ok (.iconst 2, 1) := by decide +kernel
theorem dX6_die_20 : decode cX6_die 20 = .ok (.putfield 142, 3) := by decide +kernel
theorem dX6_die_23 : decode cX6_die 23 = .ok (.aload_n 1, 1) := by decide +kernel
theorem dX6_die_24 : decode cX6_die 24 = .ok (.getfield 145, 3) := by decide +kernel
theorem dX6_die_27 : decode cX6_die 27 = .ok (.aload_n 2, 1) := by decide +kernel
theorem dX6_die_28 : decode cX6_die 28 = .ok (.invokevirtual 323, 3) := by decide +kernel
theorem dX6_die_31 : decode cX6_die 31 = .ok (.aload_n 1, 1) := by decide +kernel
theorem dX6_die_32 : decode cX6_die 32 = .ok (.getfield 393, 3) := by decide +kernel
theorem dX6_die_35 : decode cX6_die 35 = .ok (.iconst (-1), 1) := by decide +kernel
theorem dX6_die_36 : decode cX6_die 36 = .ok (.if_icmp .eq 18, 3) := by decide +kernel
theorem dX6_die_39 : decode cX6_die 39 = .ok (.aload_n 0, 1) := by decide +kernel
theorem dX6_die_40 : decode cX6_die 40 = .ok (.getfield 19, 3) := by decide +kernel
theorem dX6_die_43 : decode cX6_die 43 = .ok (.aload_n 1, 1) := by decide +kernel
theorem dX6_die_44 : decode cX6_die 44 = .ok (.getfield 393, 3) := by decide +kernel
theorem dX6_die_47 : decode cX6_die 47 = .ok (.aconst_null, 1) := by decide +kernel
theorem dX6_die_48 : decode cX6_die 48 = .ok (.aastore, 1) := by decide +kernel
theorem dX6_die_49 : decode cX6_die 49 = .ok (.aload_n 1, 1) := by decide +kernel
theorem dX6_die_50 : decode cX6_die 50 = .ok (.iconst (-1), 1) := by decide +kernel
theorem dX6_die_51 : decode cX6_die 51 = .ok (.putfield 393, 3) := by decide +kernel
theorem dX6_die_54 : decode cX6_die 54 = .ok (.aload_n 1, 1) := by decide +kernel
theorem dX6_die_55 : decode cX6_die 55 = .ok (.getfield 114, 3) := by decide +kernel
theorem dX6_die_58 : decode cX6_die 58 = .ok (.invokevirtual 405, 3) := by decide +kernel
theorem dX6_die_61 : decode cX6_die 61 = .ok (.aload_n 1, 1) := by decide +kernel
theorem dX6_die_62 : decode cX6_die 62 = .ok (.getfield 250, 3) := by decide +kernel
theorem dX6_die_65 : decode cX6_die 65 = .ok (.invokevirtual 408, 3) := by decide +kernel
theorem dX6_die_68 : decode cX6_die 68 = .ok (.aload_n 0, 1) := by decide +kernel
theorem dX6_die_69 : decode cX6_die 69 = .ok (.getfield 28, 3) := by decide +kernel
theorem dX6_die_72 : decode cX6_die 72 = .ok (.aload_n 1, 1) := by decide +kernel
theorem dX6_die_73 : decode cX6_die 73 = .ok (.getfield 88, 3) := by decide +kernel
theorem dX6_die_76 : decode cX6_die 76 = .ok (.invokevirtual 409, 3) := by decide +kernel
theorem dX6_die_79 : decode cX6_die 79 = .ok (.aload_n 0, 1) := by decide +kernel
theorem dX6_die_80 : decode cX6_die 80 = .ok (.getfield 22, 3) := by decide +kernel
theorem dX6_die_83 : decode cX6_die 83 = .ok (.aload_n 0, 1) := by decide +kernel
theorem dX6_die_84 : decode cX6_die 84 = .ok (.getfield 53, 3) := by decide +kernel
theorem dX6_die_87 : decode cX6_die 87 = .ok (.aload_n 1, 1) := by decide +kernel
theorem dX6_die_88 : decode cX6_die 88 = .ok (.aastore, 1) := by decide +kernel
theorem dX6_die_89 : decode cX6_die 89 = .ok (.aload_n 0, 1) := by decide +kernel
theorem dX6_die_90 : decode cX6_die 90 = .ok (.dup, 1) := by decide +kernel
theorem dX6_die_91 : decode cX6_die 91 = .ok (.getfield 53, 3) := by decide +kernel
theorem dX6_die_94 : decode cX6_die 94 = .ok (.iconst 1, 1) := by decide +kernel
theorem dX6_die_95 : decode cX6_die 95 = .ok (.iadd, 1) := by decide +kernel
theorem dX6_die_96 : decode cX6_die 96 = .ok (.putfield 53, 3) := by decide +kernel
theorem dX6_die_99 : decode cX6_die 99 = .ok (.return_, 1) := by decide +kernel
theorem dX6_spreadDeaths_0 : decode cX6_spreadDeaths 0 = .ok (.iconst 0, 1) := by decide +kernel
theorem dX6_spreadDeaths_1 : decode cX6_spreadDeaths 1 = .ok (.istore_n 1, 1) := by decide +kernel
theorem dX6_spreadDeaths_2 : decode cX6_spreadDeaths 2 = .ok (.iload_n 1, 1) := by decide +kernel
theorem dX6_spreadDeaths_3 : decode cX6_spreadDeaths 3 = .ok (.bipush 60, 2) := by decide +kernel
theorem dX6_spreadDeaths_5 : decode cX6_spreadDeaths 5 = .ok (.if_icmp .ge 50, 3) := by decide +kernel
theorem dX6_spreadDeaths_8 : decode cX6_spreadDeaths 8 = .ok (.aload_n 0, 1) := by decide +kernel
theorem dX6_spreadDeaths_9 : decode cX6_spreadDeaths 9 = .ok (.getfield 56, 3) := by decide +kernel
theorem dX6_spreadDeaths_12 : decode cX6_spreadDeaths 12 = .ok (.aload_n 0, 1) := by decide +kernel
theorem dX6_spreadDeaths_13 : decode cX6_spreadDeaths 13 = .ok (.getfield 53, 3) := by decide +kernel
theorem dX6_spreadDeaths_16 : decode cX6_spreadDeaths 16 = .ok (.if_icmp .ge 39, 3) := by decide +kernel
theorem dX6_spreadDeaths_19 : decode cX6_spreadDeaths 19 = .ok (.aload_n 0, 1) := by decide +kernel
theorem dX6_spreadDeaths_20 : decode cX6_spreadDeaths 20 = .ok (.getfield 22, 3) := by decide +kernel
theorem dX6_spreadDeaths_23 : decode cX6_spreadDeaths 23 = .ok (.aload_n 0, 1) := by decide +kernel
theorem dX6_spreadDeaths_24 : decode cX6_spreadDeaths 24 = .ok (.getfield 56, 3) := by decide +kernel
theorem dX6_spreadDeaths_27 : decode cX6_spreadDeaths 27 = .ok (.aaload, 1) := by decide +kernel
theorem dX6_spreadDeaths_28 : decode cX6_spreadDeaths 28 = .ok (.astore_n 2, 1) := by decide +kernel
theorem dX6_spreadDeaths_29 : decode cX6_spreadDeaths 29 = .ok (.aload_n 0, 1) := by decide +kernel
theorem dX6_spreadDeaths_30 : decode cX6_spreadDeaths 30 = .ok (.dup, 1) := by decide +kernel
theorem dX6_spreadDeaths_31 : decode cX6_spreadDeaths 31 = .ok (.getfield 56, 3) := by decide +kernel
theorem dX6_spreadDeaths_34 : decode cX6_spreadDeaths 34 = .ok (.iconst 1, 1) := by decide +kernel
theorem dX6_spreadDeaths_35 : decode cX6_spreadDeaths 35 = .ok (.iadd, 1) := by decide +kernel
theorem dX6_spreadDeaths_36 : decode cX6_spreadDeaths 36 = .ok (.putfield 56, 3) := by decide +kernel
theorem dX6_spreadDeaths_39 : decode cX6_spreadDeaths 39 = .ok (.aload_n 0, 1) := by decide +kernel
theorem dX6_spreadDeaths_40 : decode cX6_spreadDeaths 40 = .ok (.aload_n 2, 1) := by decide +kernel
theorem dX6_spreadDeaths_41 : decode cX6_spreadDeaths 41 = .ok (.invokevirtual 413, 3) := by decide +kernel
theorem dX6_spreadDeaths_44 : decode cX6_spreadDeaths 44 = .ok (.aload_n 0, 1) := by decide +kernel
theorem dX6_spreadDeaths_45 : decode cX6_spreadDeaths 45 = .ok (.aload_n 2, 1) := by decide +kernel
theorem dX6_spreadDeaths_46 : decode cX6_spreadDeaths 46 = .ok (.invokevirtual 416, 3) := by decide +kernel
theorem dX6_spreadDeaths_49 : decode cX6_spreadDeaths 49 = .ok (.iinc 1 1, 3) := by decide +kernel
theorem dX6_spreadDeaths_52 : decode cX6_spreadDeaths 52 = .ok (.goto (-50), 3) := by decide +kernel
theorem dX6_spreadDeaths_55 : decode cX6_spreadDeaths 55 = .ok (.return_, 1) := by decide +kernel
theorem dX6_tellLinked_0 : decode cX6_tellLinked 0 = .ok (.iconst 0, 1) := by decide +kernel
theorem dX6_tellLinked_1 : decode cX6_tellLinked 1 = .ok (.istore_n 2, 1) := by decide +kernel
theorem dX6_tellLinked_2 : decode cX6_tellLinked 2 = .ok (.iload_n 2, 1) := by decide +kernel
theorem dX6_tellLinked_3 : decode cX6_tellLinked 3 = .ok (.aload_n 0, 1) := by decide +kernel
theorem dX6_tellLinked_4 : decode cX6_tellLinked 4 = .ok (.getfield 49, 3) := by decide +kernel
theorem dX6_tellLinked_7 : decode cX6_tellLinked 7 = .ok (.if_icmp .ge 43, 3) := by decide +kernel
theorem dX6_tellLinked_10 : decode cX6_tellLinked 10 = .ok (.aload_n 0, 1) := by decide +kernel
theorem dX6_tellLinked_11 : decode cX6_tellLinked 11 = .ok (.getfield 15, 3) := by decide +kernel
theorem dX6_tellLinked_14 : decode cX6_tellLinked 14 = .ok (.iload_n 2, 1) := by decide +kernel
theorem dX6_tellLinked_15 : decode cX6_tellLinked 15 = .ok (.aaload, 1) := by decide +kernel
theorem dX6_tellLinked_16 : decode cX6_tellLinked 16 = .ok (.astore_n 3, 1) := by decide +kernel
theorem dX6_tellLinked_17 : decode cX6_tellLinked 17 = .ok (.aload_n 1, 1) := by decide +kernel
theorem dX6_tellLinked_18 : decode cX6_tellLinked 18 = .ok (.aload_n 3, 1) := by decide +kernel
theorem dX6_tellLinked_19 : decode cX6_tellLinked 19 = .ok (.invokevirtual 419, 3) := by decide +kernel
theorem dX6_tellLinked_22 : decode cX6_tellLinked 22 = .ok (.ifCond .eq 22, 3) := by decide +kernel
theorem dX6_tellLinked_25 : decode cX6_tellLinked 25 = .ok (.aload_n 1, 1) := by decide +kernel
theorem dX6_tellLinked_26 : decode cX6_tellLinked 26 = .ok (.aload_n 3, 1) := by decide +kernel
theorem dX6_tellLinked_27 : decode cX6_tellLinked 27 = .ok (.invokevirtual 371, 3) := by decide +kernel
theorem dX6_tellLinked_30 : decode cX6_tellLinked 30 = .ok (.aload_n 0, 1) := by decide +kernel
theorem dX6_tellLinked_31 : decode cX6_tellLinked 31 = .ok (.aload_n 3, 1) := by decide +kernel
theorem dX6_tellLinked_32 : decode cX6_tellLinked 32 = .ok (.aload_n 1, 1) := by decide +kernel
theorem dX6_tellLinked_33 : decode cX6_tellLinked 33 = .ok (.getfield 88, 3) := by decide +kernel
theorem dX6_tellLinked_36 : decode cX6_tellLinked 36 = .ok (.aload_n 1, 1) := by decide +kernel
theorem dX6_tellLinked_37 : decode cX6_tellLinked 37 = .ok (.getfield 145, 3) := by decide +kernel
theorem dX6_tellLinked_40 : decode cX6_tellLinked 40 = .ok (.iconst 0, 1) := by decide +kernel
theorem dX6_tellLinked_41 : decode cX6_tellLinked 41 = .ok (.invokevirtual 367, 3) := by decide +kernel
theorem dX6_tellLinked_44 : decode cX6_tellLinked 44 = .ok (.iinc 2 1, 3) := by decide +kernel
theorem dX6_tellLinked_47 : decode cX6_tellLinked 47 = .ok (.goto (-45), 3) := by decide +kernel
theorem dX6_tellLinked_50 : decode cX6_tellLinked 50 = .ok (.return_, 1) := by decide +kernel
theorem dX6_tellWatchers_0 : decode cX6_tellWatchers 0 = .ok (.iconst 0, 1) := by decide +kernel
theorem dX6_tellWatchers_1 : decode cX6_tellWatchers 1 = .ok (.istore_n 2, 1) := by decide +kernel
theorem dX6_tellWatchers_2 : decode cX6_tellWatchers 2 = .ok (.iload_n 2, 1) := by decide +kernel
theorem dX6_tellWatchers_3 : decode cX6_tellWatchers 3 = .ok (.aload_n 0, 1) := by decide +kernel
theorem dX6_tellWatchers_4 : decode cX6_tellWatchers 4 = .ok (.getfield 28, 3) := by decide +kernel
theorem dX6_tellWatchers_7 : decode cX6_tellWatchers 7 = .ok (.getfield 423, 3) := by decide +kernel
theorem dX6_tellWatchers_10 : decode cX6_tellWatchers 10 = .ok (.if_icmp .ge 81, 3) := by decide +kernel
theorem dX6_tellWatchers_13 : decode cX6_tellWatchers 13 = .ok (.aload_n 0, 1) := by decide +kernel
theorem dX6_tellWatchers_14 : decode cX6_tellWatchers 14 = .ok (.getfield 28, 3) := by decide +kernel
theorem dX6_tellWatchers_17 : decode cX6_tellWatchers 17 = .ok (.getfield 426, 3) := by decide +kernel
theorem dX6_tellWatchers_20 : decode cX6_tellWatchers 20 = .ok (.iload_n 2, 1) := by decide +kernel
theorem dX6_tellWatchers_21 : decode cX6_tellWatchers 21 = .ok (.iaload, 1) := by decide +kernel
theorem dX6_tellWatchers_22 : decode cX6_tellWatchers 22 = .ok (.aload_n 1, 1) := by decide +kernel
theorem dX6_tellWatchers_23 : decode cX6_tellWatchers 23 = .ok (.getfield 88, 3) := by decide +kernel
theorem dX6_tellWatchers_26 : decode cX6_tellWatchers 26 = .ok (.if_icmp .ne 19, 3) := by decide +kernel
theorem dX6_tellWatchers_29 : decode cX6_tellWatchers 29 = .ok (.aload_n 0, 1) := by decide +kernel
theorem dX6_tellWatchers_30 : decode cX6_tellWatchers 30 = .ok (.aload_n 0, 1) := by decide +kernel
theorem dX6_tellWatchers_31 : decode cX6_tellWatchers 31 = .ok (.getfield 28, 3) := by decide +kernel
theorem dX6_tellWatchers_34 : decode cX6_tellWatchers 34 = .ok (.getfield 429, 3) := by decide +kernel
theorem dX6_tellWatchers_37 : decode cX6_tellWatchers 37 = .ok (.iload_n 2, 1) := by decide +kernel
theorem dX6_tellWatchers_38 : decode cX6_tellWatchers 38 = .ok (.iaload, 1) := by decide +kernel
theorem dX6_tellWatchers_39 : decode cX6_tellWatchers 39 = .ok (.invokevirtual 91, 3) := by decide +kernel
theorem dX6_tellWatchers_42 : decode cX6_tellWatchers 42 = .ok (.goto 4, 3) := by decide +kernel
theorem dX6_tellWatchers_45 : decode cX6_tellWatchers 45 = .ok (.aconst_null, 1) := by decide +kernel
theorem dX6_tellWatchers_46 : decode cX6_tellWatchers 46 = .ok (.astore_n 3, 1) := by decide +kernel
theorem dX6_tellWatchers_47 : decode cX6_tellWatchers 47 = .ok (.aload_n 3, 1) := by decide +kernel
theorem dX6_tellWatchers_48 : decode cX6_tellWatchers 48 = .ok (.ifnull 37, 3) := by decide +kernel
theorem dX6_tellWatchers_51 : decode cX6_tellWatchers 51 = .ok (.aload_n 0, 1) := by decide +kernel
theorem dX6_tellWatchers_52 : decode cX6_tellWatchers 52 = .ok (.getfield 42, 3) := by decide +kernel
theorem dX6_tellWatchers_55 : decode cX6_tellWatchers 55 = .ok (.aload_n 0, 1) := by decide +kernel
theorem dX6_tellWatchers_56 : decode cX6_tellWatchers 56 = .ok (.getfield 28, 3) := by decide +kernel
theorem dX6_tellWatchers_59 : decode cX6_tellWatchers 59 = .ok (.getfield 432, 3) := by decide +kernel
theorem dX6_tellWatchers_62 : decode cX6_tellWatchers 62 = .ok (.iload_n 2, 1) := by decide +kernel
theorem dX6_tellWatchers_63 : decode cX6_tellWatchers 63 = .ok (.iaload, 1) := by decide +kernel
theorem dX6_tellWatchers_64 : decode cX6_tellWatchers 64 = .ok (.aload_n 1, 1) := by decide +kernel
theorem dX6_tellWatchers_65 : decode cX6_tellWatchers 65 = .ok (.getfield 88, 3) := by decide +kernel
theorem dX6_tellWatchers_68 : decode cX6_tellWatchers 68 = .ok (.aload_n 1, 1) := by decide +kernel
theorem dX6_tellWatchers_69 : decode cX6_tellWatchers 69 = .ok (.getfield 145, 3) := by decide +kernel
theorem dX6_tellWatchers_72 : decode cX6_tellWatchers 72 = .ok (.invokevirtual 381, 3) := by decide +kernel
theorem dX6_tellWatchers_75 : decode cX6_tellWatchers 75 = .ok (.aload_n 0, 1) := by decide +kernel
theorem dX6_tellWatchers_76 : decode cX6_tellWatchers 76 = .ok (.aload_n 3, 1) := by decide +kernel
theorem dX6_tellWatchers_77 : decode cX6_tellWatchers 77 = .ok (.aload_n 0, 1) := by decide +kernel
theorem dX6_tellWatchers_78 : decode cX6_tellWatchers 78 = .ok (.getfield 42, 3) := by decide +kernel
theorem dX6_tellWatchers_81 : decode cX6_tellWatchers 81 = .ok (.invokevirtual 99, 3) := by decide +kernel
theorem dX6_tellWatchers_84 : decode cX6_tellWatchers 84 = .ok (.pop, 1) := by decide +kernel
theorem dX6_tellWatchers_85 : decode cX6_tellWatchers 85 = .ok (.iinc 2 1, 3) := by decide +kernel
theorem dX6_tellWatchers_88 : decode cX6_tellWatchers 88 = .ok (.goto (-86), 3) := by decide +kernel
theorem dX6_tellWatchers_91 : decode cX6_tellWatchers 91 = .ok (.aload_n 0, 1) := by decide +kernel
theorem dX6_tellWatchers_92 : decode cX6_tellWatchers 92 = .ok (.getfield 28, 3) := by decide +kernel
theorem dX6_tellWatchers_95 : decode cX6_tellWatchers 95 = .ok (.aload_n 1, 1) := by decide +kernel
theorem dX6_tellWatchers_96 : decode cX6_tellWatchers 96 = .ok (.getfield 88, 3) := by decide +kernel
theorem dX6_tellWatchers_99 : decode cX6_tellWatchers 99 = .ok (.invokevirtual 435, 3) := by decide +kernel
theorem dX6_tellWatchers_102 : decode cX6_tellWatchers 102 = .ok (.return_, 1) := by decide +kernel
theorem dX7_init_0 : decode cX7_init 0 = .ok (.aload_n 0, 1) := by decide +kernel
theorem dX7_init_1 : decode cX7_init 1 = .ok (.invokespecial 1, 3) := by decide +kernel
theorem dX7_init_4 : decode cX7_init 4 = .ok (.aload_n 0, 1) := by decide +kernel
theorem dX7_init_5 : decode cX7_init 5 = .ok (.ldc 7, 2) := by decide +kernel
theorem dX7_init_7 : decode cX7_init 7 = .ok (.newarray .int, 2) := by decide +kernel
theorem dX7_init_9 : decode cX7_init 9 = .ok (.putfield 8, 3) := by decide +kernel
theorem dX7_init_12 : decode cX7_init 12 = .ok (.aload_n 0, 1) := by decide +kernel
theorem dX7_init_13 : decode cX7_init 13 = .ok (.sipush 2945, 3) := by decide +kernel
theorem dX7_init_16 : decode cX7_init 16 = .ok (.newarray .int, 2) := by decide +kernel
theorem dX7_init_18 : decode cX7_init 18 = .ok (.putfield 14, 3) := by decide +kernel
theorem dX7_init_21 : decode cX7_init 21 = .ok (.aload_n 0, 1) := by decide +kernel
theorem dX7_init_22 : decode cX7_init 22 = .ok (.sipush 300, 3) := by decide +kernel
theorem dX7_init_25 : decode cX7_init 25 = .ok (.newarray .int, 2) := by decide +kernel
theorem dX7_init_27 : decode cX7_init 27 = .ok (.putfield 17, 3) := by decide +kernel
theorem dX7_init_30 : decode cX7_init 30 = .ok (.aload_n 0, 1) := by decide +kernel
theorem dX7_init_31 : decode cX7_init 31 = .ok (.sipush 300, 3) := by decide +kernel
theorem dX7_init_34 : decode cX7_init 34 = .ok (.newarray .int, 2) := by decide +kernel
theorem dX7_init_36 : decode cX7_init 36 = .ok (.putfield 20, 3) := by decide +kernel
theorem dX7_init_39 : decode cX7_init 39 = .ok (.aload_n 0, 1) := by decide +kernel
theorem dX7_init_40 : decode cX7_init 40 = .ok (.sipush 300, 3) := by decide +kernel
theorem dX7_init_43 : decode cX7_init 43 = .ok (.newarray .int, 2) := by decide +kernel
theorem dX7_init_45 : decode cX7_init 45 = .ok (.putfield 23, 3) := by decide +kernel
theorem dX7_init_48 : decode cX7_init 48 = .ok (.aload_n 0, 1) := by decide +kernel
theorem dX7_init_49 : decode cX7_init 49 = .ok (.sipush 300, 3) := by decide +kernel
theorem dX7_init_52 : decode cX7_init 52 = .ok (.newarray .int, 2) := by decide +kernel
theorem dX7_init_54 : decode cX7_init 54 = .ok (.putfield 26, 3) := by decide +kernel
theorem dX7_init_57 : decode cX7_init 57 = .ok (.aload_n 0, 1) := by decide +kernel
theorem dX7_init_58 : decode cX7_init 58 = .ok (.bipush 60, 2) := by decide +kernel
theorem dX7_init_60 : decode cX7_init 60 = .ok (.newarray .int, 2) := by decide +kernel
theorem dX7_init_62 : decode cX7_init 62 = .ok (.putfield 29, 3) := by decide +kernel
theorem dX7_init_65 : decode cX7_init 65 = .ok (.aload_n 0, 1) := by decide +kernel
theorem dX7_init_66 : decode cX7_init 66 = .ok (.bipush 60, 2) := by decide +kernel
theorem dX7_init_68 : decode cX7_init 68 = .ok (.newarray .int, 2) := by decide +kernel
theorem dX7_init_70 : decode cX7_init 70 = .ok (.putfield 32, 3) := by decide +kernel
theorem dX7_init_73 : decode cX7_init 73 = .ok (.aload_n 0, 1) := by decide +kernel
theorem dX7_init_74 : decode cX7_init 74 = .ok (.bipush 60, 2) := by decide +kernel
theorem dX7_init_76 : decode cX7_init 76 = .ok (.newarray .int, 2) := by decide +kernel
theorem dX7_init_78 : decode cX7_init 78 = .ok (.putfield 35, 3) := by decide +kernel
theorem dX7_init_81 : decode cX7_init 81 = .ok (.aload_n 0, 1) := by decide +kernel
theorem dX7_init_82 : decode cX7_init 82 = .ok (.bipush 60, 2) := by decide +kernel
theorem dX7_init_84 : decode cX7_init 84 = .ok (.newarray .int, 2) := by decide +kernel
theorem dX7_init_86 : decode cX7_init 86 = .ok (.putfield 38, 3) := by decide +kernel
theorem dX7_init_89 : decode cX7_init 89 = .ok (.aload_n 0, 1) := by decide +kernel
theorem dX7_init_90 : decode cX7_init 90 = .ok (.bipush 60, 2) := by decide +kernel
theorem dX7_init_92 : decode cX7_init 92 = .ok (.newarray .boolean, 2) := by decide +kernel
theorem dX7_init_94 : decode cX7_init 94 = .ok (.putfield 41, 3) := by decide +kernel
theorem dX7_init_97 : decode cX7_init 97 = .ok (.aload_n 0, 1) := by decide +kernel
theorem dX7_init_98 : decode cX7_init 98 = .ok (.bipush 60, 2) := by decide +kernel
theorem dX7_init_100 : decode cX7_init 100 = .ok (.newarray .int, 2) := by decide +kernel
theorem dX7_init_102 : decode cX7_init 102 = .ok (.putfield 45, 3) := by decide +kernel
theorem dX7_init_105 : decode cX7_init 105 = .ok (.aload_n 0, 1) := by decide +kernel
theorem dX7_init_106 : decode cX7_init 106 = .ok (.bipush 60, 2) := by decide +kernel
theorem dX7_init_108 : decode cX7_init 108 = .ok (.newarray .int, 2) := by decide +kernel
theorem dX7_init_110 : decode cX7_init 110 = .ok (.putfield 48, 3) := by decide +kernel
theorem dX7_init_113 : decode cX7_init 113 = .ok (.aload_n 0, 1) := by decide +kernel
theorem dX7_init_114 : decode cX7_init 114 = .ok (.sipush 960, 3) := by decide +kernel
theorem dX7_init_117 : decode cX7_init 117 = .ok (.newarray .int, 2) := by decide +kernel
theorem dX7_init_119 : decode cX7_init 119 = .ok (.putfield 51, 3) := by decide +kernel
theorem dX7_init_122 : decode cX7_init 122 = .ok (.aload_n 0, 1) := by decide +kernel
theorem dX7_init_123 : decode cX7_init 123 = .ok (.bipush 60, 2) := by decide +kernel
theorem dX7_init_125 : decode cX7_init 125 = .ok (.newarray .int, 2) := by decide +kernel
theorem dX7_init_127 : decode cX7_init 127 = .ok (.putfield 54, 3) := by decide +kernel
theorem dX7_init_130 : decode cX7_init 130 = .ok (.aload_n 0, 1) := by decide +kernel
theorem dX7_init_131 : decode cX7_init 131 = .ok (.sipush 480, 3) := by decide +kernel
theorem dX7_init_134 : decode cX7_init 134 = .ok (.newarray .int, 2) := by decide +kernel
theorem dX7_init_136 : decode cX7_init 136 = .ok (.putfield 57, 3) := by decide +kernel
theorem dX7_init_139 : decode cX7_init 139 = .ok (.aload_n 0, 1) := by decide +kernel
theorem dX7_init_140 : decode cX7_init 140 = .ok (.sipush 480, 3) := by decide +kernel
theorem dX7_init_143 : decode cX7_init 143 = .ok (.newarray .int, 2) := by decide +kernel
theorem dX7_init_145 : decode cX7_init 145 = .ok (.putfield 60, 3) := by decide +kernel
theorem dX7_init_148 : decode cX7_init 148 = .ok (.aload_n 0, 1) := by decide +kernel
theorem dX7_init_149 : decode cX7_init 149 = .ok (.bipush 60, 2) := by decide +kernel
theorem dX7_init_151 : decode cX7_init 151 = .ok (.newarray .int, 2) := by decide +kernel
theorem dX7_init_153 : decode cX7_init 153 = .ok (.putfield 63, 3) := by decide +kernel
theorem dX7_init_156 : decode cX7_init 156 = .ok (.aload_n 0, 1) := by decide +kernel
theorem dX7_init_157 : decode cX7_init 157 = .ok (.bipush 60, 2) := by decide +kernel
theorem dX7_init_159 : decode cX7_init 159 = .ok (.newarray .int, 2) := by decide +kernel
theorem dX7_init_161 : decode cX7_init 161 = .ok (.putfield 66, 3) := by decide +kernel
theorem dX7_init_164 : decode cX7_init 164 = .ok (.aload_n 0, 1) := by decide +kernel
theorem dX7_init_165 : decode cX7_init 165 = .ok (.bipush 60, 2) := by decide +kernel
theorem dX7_init_167 : decode cX7_init 167 = .ok (.newarray .int, 2) := by decide +kernel
theorem dX7_init_169 : decode cX7_init 169 = .ok (.putfield 69, 3) := by decide +kernel
theorem dX7_init_172 : decode cX7_init 172 = .ok (.aload_n 0, 1) := by decide +kernel
theorem dX7_init_173 : decode cX7_init 173 = .ok (.bipush 60, 2) := by decide +kernel
theorem dX7_init_175 : decode cX7_init 175 = .ok (.newarray .int, 2) := by decide +kernel
theorem dX7_init_177 : decode cX7_init 177 = .ok (.putfield 72, 3) := by decide +kernel
theorem dX7_init_180 : decode cX7_init 180 = .ok (.aload_n 0, 1) := by decide +kernel
theorem dX7_init_181 : decode cX7_init 181 = .ok (.bipush 60, 2) := by decide +kernel
theorem dX7_init_183 : decode cX7_init 183 = .ok (.newarray .int, 2) := by decide +kernel
theorem dX7_init_185 : decode cX7_init 185 = .ok (.putfield 75, 3) := by decide +kernel
theorem dX7_init_188 : decode cX7_init 188 = .ok (.aload_n 0, 1) := by decide +kernel
theorem dX7_init_189 : decode cX7_init 189 = .ok (.bipush 60, 2) := by decide +kernel
theorem dX7_init_191 : decode cX7_init 191 = .ok (.newarray .boolean, 2) := by decide +kernel
theorem dX7_init_193 : decode cX7_init 193 = .ok (.putfield 78, 3) := by decide +kernel
theorem dX7_init_196 : decode cX7_init 196 = .ok (.aload_n 0, 1) := by decide +kernel
theorem dX7_init_197 : decode cX7_init 197 = .ok (.bipush 60, 2) := by decide +kernel
theorem dX7_init_199 : decode cX7_init 199 = .ok (.newarray .int, 2) := by decide +kernel
theorem dX7_init_201 : decode cX7_init 201 = .ok (.putfield 81, 3) := by decide +kernel
theorem dX7_init_204 : decode cX7_init 204 = .ok (.aload_n 0, 1) := by decide +kernel
theorem dX7_init_205 : decode cX7_init 205 = .ok (.sipush 3600, 3) := by decide +kernel
theorem dX7_init_208 : decode cX7_init 208 = .ok (.newarray .boolean, 2) := by decide +kernel
theorem dX7_init_210 : decode cX7_init 210 = .ok (.putfield 84, 3) := by decide +kernel
theorem dX7_init_213 : decode cX7_init 213 = .ok (.aload_n 0, 1) := by decide +kernel
theorem dX7_init_214 : decode cX7_init 214 = .ok (.sipush 200, 3) := by decide +kernel
theorem dX7_init_217 : decode cX7_init 217 = .ok (.newarray .int, 2) := by decide +kernel
theorem dX7_init_219 : decode cX7_init 219 = .ok (.putfield 87, 3) := by decide +kernel
theorem dX7_init_222 : decode cX7_init 222 = .ok (.aload_n 0, 1) := by decide +kernel
theorem dX7_init_223 : decode cX7_init 223 = .ok (.sipush 200, 3) := by decide +kernel
theorem dX7_init_226 : decode cX7_init 226 = .ok (.newarray .int, 2) := by decide +kernel
theorem dX7_init_228 : decode cX7_init 228 = .ok (.putfield 90, 3) := by decide +kernel
theorem dX7_init_231 : decode cX7_init 231 = .ok (.aload_n 0, 1) := by decide +kernel
theorem dX7_init_232 : decode cX7_init 232 = .ok (.sipush 200, 3) := by decide +kernel
theorem dX7_init_235 : decode cX7_init 235 = .ok (.newarray .int, 2) := by decide +kernel
theorem dX7_init_237 : decode cX7_init 237 = .ok (.putfield 93, 3) := by decide +kernel
theorem dX7_init_240 : decode cX7_init 240 = .ok (.aload_n 0, 1) := by decide +kernel
theorem dX7_init_241 : decode cX7_init 241 = .ok (.bipush 60, 2) := by decide +kernel
theorem dX7_init_243 : decode cX7_init 243 = .ok (.newarray .int, 2) := by decide +kernel
theorem dX7_init_245 : decode cX7_init 245 = .ok (.putfield 96, 3) := by decide +kernel
theorem dX7_init_248 : decode cX7_init 248 = .ok (.aload_n 0, 1) := by decide +kernel
theorem dX7_init_249 : decode cX7_init 249 = .ok (.sipush 600, 3) := by decide +kernel
theorem dX7_init_252 : decode cX7_init 252 = .ok (.newarray .int, 2) := by decide +kernel
theorem dX7_init_254 : decode cX7_init 254 = .ok (.putfield 99, 3) := by decide +kernel
theorem dX7_init_257 : decode cX7_init 257 = .ok (.return_, 1) := by decide +kernel
theorem dX7_thrown_0 : decode cX7_thrown 0 = .ok (.aload_n 0, 1) := by decide +kernel
theorem dX7_thrown_1 : decode cX7_thrown 1 = .ok (.getfield 102, 3) := by decide +kernel
theorem dX7_thrown_4 : decode cX7_thrown 4 = .ok (.ireturn, 1) := by decide +kernel
theorem dX7_fails_0 : decode cX7_fails 0 = .ok (.aload_n 0, 1) := by decide +kernel
theorem dX7_fails_1 : decode cX7_fails 1 = .ok (.iload_n 1, 1) := by decide +kernel
theorem dX7_fails_2 : decode cX7_fails 2 = .ok (.ifCond .eq 7, 3) := by decide +kernel
theorem dX7_fails_5 : decode cX7_fails 5 = .ok (.iload_n 2, 1) := by decide +kernel
theorem dX7_fails_6 : decode cX7_fails 6 = .ok (.goto 4, 3) := by decide +kernel
theorem dX7_fails_9 : decode cX7_fails 9 = .ok (.iconst 0, 1) := by decide +kernel
theorem dX7_fails_10 : decode cX7_fails 10 = .ok (.putfield 102, 3) := by decide +kernel
theorem dX7_fails_13 : decode cX7_fails 13 = .ok (.iload_n 1, 1) := by decide +kernel
theorem dX7_fails_14 : decode cX7_fails 14 = .ok (.ireturn, 1) := by decide +kernel
theorem dX7_within_0 : decode cX7_within 0 = .ok (.iload_n 0, 1) := by decide +kernel
theorem dX7_within_1 : decode cX7_within 1 = .ok (.iload_n 1, 1) := by decide +kernel
theorem dX7_within_2 : decode cX7_within 2 = .ok (.if_icmp .lt 12, 3) := by decide +kernel
theorem dX7_within_5 : decode cX7_within 5 = .ok (.iload_n 0, 1) := by decide +kernel
theorem dX7_within_6 : decode cX7_within 6 = .ok (.iload_n 2, 1) := by decide +kernel
theorem dX7_within_7 : decode cX7_within 7 = .ok (.if_icmp .gt 7, 3) := by decide +kernel
theorem dX7_within_10 : decode cX7_within 10 = .ok (.iconst 1, 1) := by decide +kernel
theorem dX7_within_11 : decode cX7_within 11 = .ok (.goto 4, 3) := by decide +kernel
theorem dX7_within_14 : decode cX7_within 14 = .ok (.iconst 0, 1) := by decide +kernel
theorem dX7_within_15 : decode cX7_within 15 = .ok (.ireturn, 1) := by decide +kernel
theorem dX7_mod_0 : decode cX7_mod 0 = .ok (.iload_n 0, 1) := by decide +kernel
theorem dX7_mod_1 : decode cX7_mod 1 = .ok (.iload_n 1, 1) := by decide +kernel
theorem dX7_mod_2 : decode cX7_mod 2 = .ok (.irem, 1) := by decide +kernel
theorem dX7_mod_3 : decode cX7_mod 3 = .ok (.istore_n 2, 1) := by decide +kernel
theorem dX7_mod_4 : decode cX7_mod 4 = .ok (.iload_n 2, 1) := by decide +kernel
theorem dX7_mod_5 : decode cX7_mod 5 = .ok (.ifCond .ge 9, 3) := by decide +kernel
theorem dX7_mod_8 : decode cX7_mod 8 = .ok (.iload_n 2, 1) := by decide +kernel
theorem dX7_mod_9 : decode cX7_mod 9 = .ok (.iload_n 1, 1) := by decide +kernel
theorem dX7_mod_10 : decode cX7_mod 10 = .ok (.iadd, 1) := by decide +kernel
theorem dX7_mod_11 : decode cX7_mod 11 = .ok (.goto 4, 3) := by decide +kernel
theorem dX7_mod_14 : decode cX7_mod 14 = .ok (.iload_n 2, 1) := by decide +kernel
theorem dX7_mod_15 : decode cX7_mod 15 = .ok (.ireturn, 1) := by decide +kernel
theorem dX7_set_0 : decode cX7_set 0 = .ok (.aload_n 0, 1) := by decide +kernel
theorem dX7_set_1 : decode cX7_set 1 = .ok (.getfield 14, 3) := by decide +kernel
theorem dX7_set_4 : decode cX7_set 4 = .ok (.iload_n 1, 1) := by decide +kernel
theorem dX7_set_5 : decode cX7_set 5 = .ok (.iconst 2, 1) := by decide +kernel
theorem dX7_set_6 : decode cX7_set 6 = .ok (.iastore, 1) := by decide +kernel
theorem dX7_set_7 : decode cX7_set 7 = .ok (.aload_n 0, 1) := by decide +kernel
theorem dX7_set_8 : decode cX7_set 8 = .ok (.getfield 8, 3) := by decide +kernel
theorem dX7_set_11 : decode cX7_set 11 = .ok (.bipush 95, 2) := by decide +kernel
theorem dX7_set_13 : decode cX7_set 13 = .ok (.iload_n 1, 1) := by decide +kernel
theorem dX7_set_14 : decode cX7_set 14 = .ok (.imul, 1) := by decide +kernel
theorem dX7_set_15 : decode cX7_set 15 = .ok (.iload_n 2, 1) := by decide +kernel
theorem dX7_set_16 : decode cX7_set 16 = .ok (.iastore, 1) := by decide +kernel
theorem dX7_set_17 : decode cX7_set 17 = .ok (.aload_n 0, 1) := by decide +kernel
theorem dX7_set_18 : decode cX7_set 18 = .ok (.getfield 8, 3) := by decide +kernel
theorem dX7_set_21 : decode cX7_set 21 = .ok (.bipush 95, 2) := by decide +kernel
theorem dX7_set_23 : decode cX7_set 23 = .ok (.iload_n 1, 1) := by decide +kernel
theorem dX7_set_24 : decode cX7_set 24 = .ok (.imul, 1) := by decide +kernel
theorem dX7_set_25 : decode cX7_set 25 = .ok (.iconst 1, 1) := by decide +kernel
theorem dX7_set_26 : decode cX7_set 26 = .ok (.iadd, 1) := by decide +kernel
theorem dX7_set_27 : decode cX7_set 27 = .ok (.iload_n 3, 1) := by decide +kernel
theorem dX7_set_28 : decode cX7_set 28 = .ok (.iastore, 1) := by decide +kernel
theorem dX7_set_29 : decode cX7_set 29 = .ok (.return_, 1) := by decide +kernel
theorem dX7_copy_0 : decode cX7_copy 0 = .ok (.aload_n 0, 1) := by decide +kernel
theorem dX7_copy_1 : decode cX7_copy 1 = .ok (.getfield 14, 3) := by decide +kernel
theorem dX7_copy_4 : decode cX7_copy 4 = .ok (.iload_n 1, 1) := by decide +kernel
theorem dX7_copy_5 : decode cX7_copy 5 = .ok (.aload_n 0, 1) := by decide +kernel
theorem dX7_copy_6 : decode cX7_copy 6 = .ok (.getfield 14, 3) := by decide +kernel
theorem dX7_copy_9 : decode cX7_copy 9 = .ok (.iload_n 2, 1) := by decide +kernel
theorem dX7_copy_10 : decode cX7_copy 10 = .ok (.iaload, 1) := by decide +kernel
theorem dX7_copy_11 : decode cX7_copy 11 = .ok (.iastore, 1) := by decide +kernel
theorem dX7_copy_12 : decode cX7_copy 12 = .ok (.iconst 0, 1) := by decide +kernel
theorem dX7_copy_13 : decode cX7_copy 13 = .ok (.istore_n 3, 1) := by decide +kernel
theorem dX7_copy_14 : decode cX7_copy 14 = .ok (.iload_n 3, 1) := by decide +kernel
theorem dX7_copy_15 : decode cX7_copy 15 = .ok (.aload_n 0, 1) := by decide +kernel
theorem dX7_copy_16 : decode cX7_copy 16 = .ok (.getfield 14, 3) := by decide +kernel
theorem dX7_copy_19 : decode cX7_copy 19 = .ok (.iload_n 2, 1) := by decide +kernel
theorem dX7_copy_20 : decode cX7_copy 20 = .ok (.iaload, 1) := by decide +kernel
theorem dX7_copy_21 : decode cX7_copy 21 = .ok (.if_icmp .ge 31, 3) := by decide +kernel
theorem dX7_copy_24 : decode cX7_copy 24 = .ok (.aload_n 0, 1) := by decide +kernel
theorem dX7_copy_25 : decode cX7_copy 25 = .ok (.getfield 8, 3) := by decide +kernel
theorem dX7_copy_28 : decode cX7_copy 28 = .ok (.bipush 95, 2) := by decide +kernel
theorem dX7_copy_30 : decode cX7_copy 30 = .ok (.iload_n 1, 1) := by decide +kernel
theorem dX7_copy_31 : decode cX7_copy 31 = .ok (.imul, 1) := by decide +kernel
theorem dX7_copy_32 : decode cX7_copy 32 = .ok (.iload_n 3, 1) := by decide +kernel
theorem dX7_copy_33 : decode cX7_copy 33 = .ok (.iadd, 1) := by decide +kernel
theorem dX7_copy_34 : decode cX7_copy 34 = .ok (.aload_n 0, 1) := by decide +kernel
theorem dX7_copy_35 : decode cX7_copy 35 = .ok (.getfield 8, 3) := by decide +kernel
theorem dX7_copy_38 : decode cX7_copy 38 = .ok (.bipush 95, 2) := by decide +kernel
theorem dX7_copy_40 : decode cX7_copy 40 = .ok (.iload_n 2, 1) := by decide +kernel
theorem dX7_copy_41 : decode cX7_copy 41 = .ok (.imul, 1) := by decide +kernel
theorem dX7_copy_42 : decode cX7_copy 42 = .ok (.iload_n 3, 1) := by decide +kernel
theorem dX7_copy_43 : decode cX7_copy 43 = .ok (.iadd, 1) := by decide +kernel
theorem dX7_copy_44 : decode cX7_copy 44 = .ok (.iaload, 1) := by decide +kernel
theorem dX7_copy_45 : decode cX7_copy 45 = .ok (.iastore, 1) := by decide +kernel
theorem dX7_copy_46 : decode cX7_copy 46 = .ok (.iinc 3 1, 3) := by decide +kernel
theorem dX7_copy_49 : decode cX7_copy 49 = .ok (.goto (-35), 3) := by decide +kernel
theorem dX7_copy_52 : decode cX7_copy 52 = .ok (.return_, 1) := by decide +kernel
theorem dX7_kindOf_0 : decode cX7_kindOf 0 = .ok (.aload_n 0, 1) := by decide +kernel
theorem dX7_kindOf_1 : decode cX7_kindOf 1 = .ok (.getfield 8, 3) := by decide +kernel
theorem dX7_kindOf_4 : decode cX7_kindOf 4 = .ok (.bipush 95, 2) := by decide +kernel
theorem dX7_kindOf_6 : decode cX7_kindOf 6 = .ok (.iload_n 1, 1) := by decide +kernel
theorem dX7_kindOf_7 : decode cX7_kindOf 7 = .ok (.imul, 1) := by decide +kernel
theorem dX7_kindOf_8 : decode cX7_kindOf 8 = .ok (.iaload, 1) := by decide +kernel
theorem dX7_kindOf_9 : decode cX7_kindOf 9 = .ok (.ireturn, 1) := by decide +kernel
theorem dX7_valueOf_0 : decode cX7_valueOf 0 = .ok (.aload_n 0, 1) := by decide +kernel
theorem dX7_valueOf_1 : decode cX7_valueOf 1 = .ok (.getfield 8, 3) := by decide +kernel
theorem dX7_valueOf_4 : decode cX7_valueOf 4 = .ok (.bipush 95, 2) := by decide +kernel
theorem dX7_valueOf_6 : decode cX7_valueOf 6 = .ok (.iload_n 1, 1) := by decide +kernel
theorem dX7_valueOf_7 : decode cX7_valueOf 7 = .ok (.imul, 1) := by decide +kernel
theorem dX7_valueOf_8 : decode cX7_valueOf 8 = .ok (.iconst 1, 1) := by decide +kernel
theorem dX7_valueOf_9 : decode cX7_valueOf 9 = .ok (.iadd, 1) := by decide +kernel
theorem dX7_valueOf_10 : decode cX7_valueOf 10 = .ok (.iaload, 1) := by decide +kernel
theorem dX7_valueOf_11 : decode cX7_valueOf 11 = .ok (.ireturn, 1) := by decide +kernel
theorem dX7_is_0 : decode cX7_is 0 = .ok (.aload_n 0, 1) := by decide +kernel
theorem dX7_is_1 : decode cX7_is 1 = .ok (.iload_n 1, 1) := by decide +kernel
theorem dX7_is_2 : decode cX7_is 2 = .ok (.invokevirtual 106, 3) := by decide +kernel
theorem dX7_is_5 : decode cX7_is 5 = .ok (.iload_n 2, 1) := by decide +kernel
theorem dX7_is_6 : decode cX7_is 6 = .ok (.if_icmp .ne 7, 3) := by decide +kernel
theorem dX7_is_9 : decode cX7_is 9 = .ok (.iconst 1, 1) := by decide +kernel
theorem dX7_is_10 : decode cX7_is 10 = .ok (.goto 4, 3) := by decide +kernel
theorem dX7_is_13 : decode cX7_is 13 = .ok (.iconst 0, 1) := by decide +kernel
theorem dX7_is_14 : decode cX7_is 14 = .ok (.ireturn, 1) := by decide +kernel
theorem dX7_ends_0 : decode cX7_ends 0 = .ok (.aload_n 0, 1) := by decide +kernel
theorem dX7_ends_1 : decode cX7_ends 1 = .ok (.getfield 14, 3) := by decide +kernel
theorem dX7_ends_4 : decode cX7_ends 4 = .ok (.iload_n 1, 1) := by decide +kernel
theorem dX7_ends_5 : decode cX7_ends 5 = .ok (.iaload, 1) := by decide +kernel
theorem dX7_ends_6 : decode cX7_ends 6 = .ok (.iconst 1, 1) := by decide +kernel
theorem dX7_ends_7 : decode cX7_ends 7 = .ok (.iadd, 1) := by decide +kernel
theorem dX7_ends_8 : decode cX7_ends 8 = .ok (.iconst 3, 1) := by decide +kernel
theorem dX7_ends_9 : decode cX7_ends 9 = .ok (.idiv, 1) := by decide +kernel
theorem dX7_ends_10 : decode cX7_ends 10 = .ok (.ireturn, 1) := by decide +kernel
theorem dX7_behind_0 : decode cX7_behind 0 = .ok (.iconst 1, 1) := by decide +kernel
theorem dX7_behind_1 : decode cX7_behind 1 = .ok (.istore_n 3, 1) := by decide +kernel
theorem dX7_behind_2 : decode cX7_behind 2 = .ok (.iload_n 2, 1) := by decide +kernel
theorem dX7_behind_3 : decode cX7_behind 3 = .ok (.istore 4, 2) := by decide +kernel
theorem dX7_behind_5 : decode cX7_behind 5 = .ok (.iload_n 3, 1) := by decide +kernel
theorem dX7_behind_6 : decode cX7_behind 6 = .ok (.ifCond .le 57, 3) := by decide +kernel
theorem dX7_behind_9 : decode cX7_behind 9 = .ok (.aload_n 0, 1) := by decide +kernel
theorem dX7_behind_10 : decode cX7_behind 10 = .ok (.getfield 8, 3) := by decide +kernel
theorem dX7_behind_13 : decode cX7_behind 13 = .ok (.bipush 95, 2) := by decide +kernel
theorem dX7_behind_15 : decode cX7_behind 15 = .ok (.iload_n 1, 1) := by decide +kernel
theorem dX7_behind_16 : decode cX7_behind 16 = .ok (.imul, 1) := by decide +kernel
theorem dX7_behind_17 : decode cX7_behind 17 = .ok (.iload 4, 2) := by decide +kernel
theorem dX7_behind_19 : decode cX7_behind 19 = .ok (.iadd, 1) := by decide +kernel
theorem dX7_behind_20 : decode cX7_behind 20 = .ok (.iaload, 1) := by decide +kernel
theorem dX7_behind_21 : decode cX7_behind 21 = .ok (.iconst (-1), 1) := by decide +kernel
theorem dX7_behind_22 : decode cX7_behind 22 = .ok (.if_icmp .ne 7, 3) := by decide +kernel
theorem dX7_behind_25 : decode cX7_behind 25 = .ok (.iconst 1, 1) := by decide +kernel
theorem dX7_behind_26 : decode cX7_behind 26 = .ok (.goto 4, 3) := by decide +kernel
theorem dX7_behind_29 : decode cX7_behind 29 = .ok (.iconst 0, 1) := by decide +kernel
theorem dX7_behind_30 : decode cX7_behind 30 = .ok (.istore 5, 2) := by decide +kernel
theorem dX7_behind_32 : decode cX7_behind 32 = .ok (.iload_n 3, 1) := by decide +kernel
theorem dX7_behind_33 : decode cX7_behind 33 = .ok (.iload 5, 2) := by decide +kernel
theorem dX7_behind_35 : decode cX7_behind 35 = .ok (.ifCond .eq 7, 3) := by decide +kernel
theorem dX7_behind_38 : decode cX7_behind 38 = .ok (.iconst 1, 1) := by decide +kernel
theorem dX7_behind_39 : decode cX7_behind 39 = .ok (.goto 4, 3) := by decide +kernel
theorem dX7_behind_42 : decode cX7_behind 42 = .ok (.iconst (-1), 1) := by decide +kernel
theorem dX7_behind_43 : decode cX7_behind 43 = .ok (.iadd, 1) := by decide +kernel
theorem dX7_behind_44 : decode cX7_behind 44 = .ok (.istore_n 3, 1) := by decide +kernel
theorem dX7_behind_45 : decode cX7_behind 45 = .ok (.iload 4, 2) := by decide +kernel
theorem dX7_behind_47 : decode cX7_behind 47 = .ok (.iload 5, 2) := by decide +kernel
theorem dX7_behind_49 : decode cX7_behind 49 = .ok (.ifCond .eq 7, 3) := by decide +kernel
theorem dX7_behind_52 : decode cX7_behind 52 = .ok (.iconst 1, 1) := by decide +kernel
theorem dX7_behind_53 : decode cX7_behind 53 = .ok (.goto 4, 3) := by decide +kernel
theorem dX7_behind_56 : decode cX7_behind 56 = .ok (.iconst 2, 1) := by decide +kernel
theorem dX7_behind_57 : decode cX7_behind 57 = .ok (.iadd, 1) := by decide +kernel
theorem dX7_behind_58 : decode cX7_behind 58 = .ok (.istore 4, 2) := by decide +kernel
theorem dX7_behind_60 : decode cX7_behind 60 = .ok (.goto (-55), 3) := by decide +kernel
theorem dX7_behind_63 : decode cX7_behind 63 = .ok (.iload 4, 2) := by decide +kernel
theorem dX7_behind_65 : decode cX7_behind 65 = .ok (.ireturn, 1) := by decide +kernel
theorem dX7_part_0 : decode cX7_part 0 = .ok (.aload_n 0, 1) := by decide +kernel
theorem dX7_part_1 : decode cX7_part 1 = .ok (.getfield 14, 3) := by decide +kernel
theorem dX7_part_4 : decode cX7_part 4 = .ok (.iload_n 1, 1) := by decide +kernel
theorem dX7_part_5 : decode cX7_part 5 = .ok (.iload 4, 2) := by decide +kernel
theorem dX7_part_7 : decode cX7_part 7 = .ok (.iload_n 3, 1) := by decide +kernel
theorem dX7_part_8 : decode cX7_part 8 = .ok (.isub, 1) := by decide +kernel
theorem dX7_part_9 : decode cX7_part 9 = .ok (.iastore, 1) := by decide +kernel
theorem dX7_part_10 : decode cX7_part 10 = .ok (.iload_n 3, 1) := by decide +kernel
theorem dX7_part_11 : decode cX7_part 11 = .ok (.istore 5, 2) := by decide +kernel
theorem dX7_part_13 : decode cX7_part 13 = .ok (.iload 5, 2) := by decide +kernel
theorem dX7_part_15 : decode cX7_part 15 = .ok (.iload 4, 2) := by decide +kernel
theorem dX7_part_17 : decode cX7_part 17 = .ok (.if_icmp .ge 35, 3) := by decide +kernel
theorem dX7_part_20 : decode cX7_part 20 = .ok (.aload_n 0, 1) := by decide +kernel
theorem dX7_part_21 : decode cX7_part 21 = .ok (.getfield 8, 3) := by decide +kernel
theorem dX7_part_24 : decode cX7_part 24 = .ok (.bipush 95, 2) := by decide +kernel
theorem dX7_part_26 : decode cX7_part 26 = .ok (.iload_n 1, 1) := by decide +kernel
theorem dX7_part_27 : decode cX7_part 27 = .ok (.imul, 1) := by decide +kernel
theorem dX7_part_28 : decode cX7_part 28 = .ok (.iload 5, 2) := by decide +kernel
theorem dX7_part_30 : decode cX7_part 30 = .ok (.iadd, 1) := by decide +kernel
theorem dX7_part_31 : decode cX7_part 31 = .ok (.iload_n 3, 1) := by decide +kernel
theorem dX7_part_32 : decode cX7_part 32 = .ok (.isub, 1) := by decide +kernel
theorem dX7_part_33 : decode cX7_part 33 = .ok (.aload_n 0, 1) := by decide +kernel
theorem dX7_part_34 : decode cX7_part 34 = .ok (.getfield 8, 3) := by decide +kernel
theorem dX7_part_37 : decode cX7_part 37 = .ok (.bipush 95, 2) := by decide +kernel
theorem dX7_part_39 : decode cX7_part 39 = .ok (.iload_n 2, 1) := by decide +kernel
theorem dX7_part_40 : decode cX7_part 40 = .ok (.imul, 1) := by decide +kernel
theorem dX7_part_41 : decode cX7_part 41 = .ok (.iload 5, 2) := by decide +kernel
theorem dX7_part_43 : decode cX7_part 43 = .ok (.iadd, 1) := by decide +kernel
theorem dX7_part_44 : decode cX7_part 44 = .ok (.iaload, 1) := by decide +kernel
theorem dX7_part_45 : decode cX7_part 45 = .ok (.iastore, 1) := by decide +kernel
theorem dX7_part_46 : decode cX7_part 46 = .ok (.iinc 5 1, 3) := by decide +kernel
theorem dX7_part_49 : decode cX7_part 49 = .ok (.goto (-36), 3) := by decide +kernel
theorem dX7_part_52 : decode cX7_part 52 = .ok (.return_, 1) := by decide +kernel
theorem dX7_pair_0 : decode cX7_pair 0 = .ok (.aload_n 0, 1) := by decide +kernel
theorem dX7_pair_1 : decode cX7_pair 1 = .ok (.getfield 14, 3) := by decide +kernel
theorem dX7_pair_4 : decode cX7_pair 4 = .ok (.iload_n 1, 1) := by decide +kernel
theorem dX7_pair_5 : decode cX7_pair 5 = .ok (.iconst 1, 1) := by decide +kernel
theorem dX7_pair_6 : decode cX7_pair 6 = .ok (.aload_n 0, 1) := by decide +kernel
theorem dX7_pair_7 : decode cX7_pair 7 = .ok (.getfield 14, 3) := by decide +kernel
theorem dX7_pair_10 : decode cX7_pair 10 = .ok (.iload_n 2, 1) := by decide +kernel
theorem dX7_pair_11 : decode cX7_pair 11 = .ok (.iaload, 1) := by decide +kernel
theorem dX7_pair_12 : decode cX7_pair 12 = .ok (.iadd, 1) := by decide +kernel
theorem dX7_pair_13 : decode cX7_pair 13 = .ok (.aload_n 0, 1) := by decide +kernel
theorem dX7_pair_14 : decode cX7_pair 14 = .ok (.getfield 14, 3) := by decide +kernel
theorem dX7_pair_17 : decode cX7_pair 17 = .ok (.iload_n 3, 1) := by decide +kernel
theorem dX7_pair_18 : decode cX7_pair 18 = .ok (.iaload, 1) := by decide +kernel
theorem dX7_pair_19 : decode cX7_pair 19 = .ok (.iadd, 1) := by decide +kernel
theorem dX7_pair_20 : decode cX7_pair 20 = .ok (.iastore, 1) := by decide +kernel
theorem dX7_pair_21 : decode cX7_pair 21 = .ok (.aload_n 0, 1) := by decide +kernel
theorem dX7_pair_22 : decode cX7_pair 22 = .ok (.getfield 8, 3) := by decide +kernel
theorem dX7_pair_25 : decode cX7_pair 25 = .ok (.bipush 95, 2) := by decide +kernel
theorem dX7_pair_27 : decode cX7_pair 27 = .ok (.iload_n 1, 1) := by decide +kernel
theorem dX7_pair_28 : decode cX7_pair 28 = .ok (.imul, 1) := by decide +kernel
theorem dX7_pair_29 : decode cX7_pair 29 = .ok (.iconst (-1), 1) := by decide +kernel
theorem dX7_pair_30 : decode cX7_pair 30 = .ok (.iastore, 1) := by decide +kernel
theorem dX7_pair_31 : decode cX7_pair 31 = .ok (.iconst 0, 1) := by decide +kernel
theorem dX7_pair_32 : decode cX7_pair 32 = .ok (.istore 4, 2) := by decide +kernel
theorem dX7_pair_34 : decode cX7_pair 34 = .ok (.iload 4, 2) := by decide +kernel
theorem dX7_pair_36 : decode cX7_pair 36 = .ok (.aload_n 0, 1) := by decide +kernel
theorem dX7_pair_37 : decode cX7_pair 37 = .ok (.getfield 14, 3) := by decide +kernel
theorem dX7_pair_40 : decode cX7_pair 40 = .ok (.iload_n 2, 1) := by decide +kernel
theorem dX7_pair_41 : decode cX7_pair 41 = .ok (.iaload, 1) := by decide +kernel
theorem dX7_pair_42 : decode cX7_pair 42 = .ok (.if_icmp .ge 35, 3) := by decide +kernel
theorem dX7_pair_45 : decode cX7_pair 45 = .ok (.aload_n 0, 1) := by decide +kernel
theorem dX7_pair_46 : decode cX7_pair 46 = .ok (.getfield 8, 3) := by decide +kernel
theorem dX7_pair_49 : decode cX7_pair 49 = .ok (.bipush 95, 2) := by decide +kernel
theorem dX7_pair_51 : decode cX7_pair 51 = .ok (.iload_n 1, 1) := by decide +kernel
theorem dX7_pair_52 : decode cX7_pair 52 = .ok (.imul, 1) := by decide +kernel
theorem dX7_pair_53 : decode cX7_pair 53 = .ok (.iconst 1, 1) := by decide +kernel
theorem dX7_pair_54 : decode cX7_pair 54 = .ok (.iadd, 1) := by decide +kernel
theorem dX7_pair_55 : decode cX7_pair 55 = .ok (.iload 4, 2) := by decide +kernel
theorem dX7_pair_57 : decode cX7_pair 57 = .ok (.iadd, 1) := by decide +kernel
theorem dX7_pair_58 : decode cX7_pair 58 = .ok (.aload_n 0, 1) := by decide +kernel
theorem dX7_pair_59 : decode cX7_pair 59 = .ok (.getfield 8, 3) := by decide +kernel
theorem dX7_pair_62 : decode cX7_pair 62 = .ok (.bipush 95, 2) := by decide +kernel
theorem dX7_pair_64 : decode cX7_pair 64 = .ok (.iload_n 2, 1) := by decide +kernel
theorem dX7_pair_65 : decode cX7_pair 65 = .ok (.imul, 1) := by decide +kernel
theorem dX7_pair_66 : decode cX7_pair 66 = .ok (.iload 4, 2) := by decide +kernel
theorem dX7_pair_68 : decode cX7_pair 68 = .ok (.iadd, 1) := by decide +kernel
theorem dX7_pair_69 : decode cX7_pair 69 = .ok (.iaload, 1) := by decide +kernel
theorem dX7_pair_70 : decode cX7_pair 70 = .ok (.iastore, 1) := by decide +kernel
theorem dX7_pair_71 : decode cX7_pair 71 = .ok (.iinc 4 1, 3) := by decide +kernel
theorem dX7_pair_74 : decode cX7_pair 74 = .ok (.goto (-40), 3) := by decide +kernel
theorem dX7_pair_77 : decode cX7_pair 77 = .ok (.iconst 0, 1) := by decide +kernel
theorem dX7_pair_78 : decode cX7_pair 78 = .ok (.istore 4, 2) := by decide +kernel
theorem dX7_pair_80 : decode cX7_pair 80 = .ok (.iload 4, 2) := by decide +kernel
theorem dX7_pair_82 : decode cX7_pair 82 = .ok (.aload_n 0, 1) := by decide +kernel
theorem dX7_pair_83 : decode cX7_pair 83 = .ok (.getfield 14, 3) := by decide +kernel
theorem dX7_pair_86 : decode cX7_pair 86 = .ok (.iload_n 3, 1) := by decide +kernel
theorem dX7_pair_87 : decode cX7_pair 87 = .ok (.iaload, 1) := by decide +kernel
theorem dX7_pair_88 : decode cX7_pair 88 = .ok (.if_icmp .ge 42, 3) := by decide +kernel
theorem dX7_pair_91 : decode cX7_pair 91 = .ok (.aload_n 0, 1) := by decide +kernel
theorem dX7_pair_92 : decode cX7_pair 92 = .ok (.getfield 8, 3) := by decide +kernel
theorem dX7_pair_95 : decode cX7_pair 95 = .ok (.bipush 95, 2) := by decide +kernel
theorem dX7_pair_97 : decode cX7_pair 97 = .ok (.iload_n 1, 1) := by decide +kernel
theorem dX7_pair_98 : decode cX7_pair 98 = .ok (.imul, 1) := by decide +kernel
theorem dX7_pair_99 : decode cX7_pair 99 = .ok (.iconst 1, 1) := by decide +kernel
theorem dX7_pair_100 : decode cX7_pair 100 = .ok (.iadd, 1) := by decide +kernel
theorem dX7_pair_101 : decode cX7_pair 101 = .ok (.aload_n 0, 1) := by decide +kernel
theorem dX7_pair_102 : decode cX7_pair 102 = .ok (.getfield 14, 3) := by decide +kernel
theorem dX7_pair_105 : decode cX7_pair 105 = .ok (.iload_n 2, 1) := by decide +kernel
theorem dX7_pair_106 : decode cX7_pair 106 = .ok (.iaload, 1) := by decide +kernel
theorem dX7_pair_107 : decode cX7_pair 107 = .ok (.iadd, 1) := by decide +kernel
theorem dX7_pair_108 : decode cX7_pair 108 = .ok (.iload 4, 2) := by decide +kernel
theorem dX7_pair_110 : decode cX7_pair 110 = .ok (.iadd, 1) := by decide +kernel
theorem dX7_pair_111 : decode cX7_pair 111 = .ok (.aload_n 0, 1) := by decide +kernel
theorem dX7_pair_112 : decode cX7_pair 112 = .ok (.getfield 8, 3) := by decide +kernel
theorem dX7_pair_115 : decode cX7_pair 115 = .ok (.bipush 95, 2) := by decide +kernel
theorem dX7_pair_117 : decode cX7_pair 117 = .ok (.iload_n 3, 1) := by decide +kernel
theorem dX7_pair_118 : decode cX7_pair 118 = .ok (.imul, 1) := by decide +kernel
theorem dX7_pair_119 : decode cX7_pair 119 = .ok (.iload 4, 2) := by decide +kernel
theorem dX7_pair_121 : decode cX7_pair 121 = .ok (.iadd, 1) := by decide +kernel
theorem dX7_pair_122 : decode cX7_pair 122 = .ok (.iaload, 1) := by decide +kernel
theorem dX7_pair_123 : decode cX7_pair 123 = .ok (.iastore, 1) := by decide +kernel
theorem dX7_pair_124 : decode cX7_pair 124 = .ok (.iinc 4 1, 3) := by decide +kernel
theorem dX7_pair_127 : decode cX7_pair 127 = .ok (.goto (-47), 3) := by decide +kernel
theorem dX7_pair_130 : decode cX7_pair 130 = .ok (.return_, 1) := by decide +kernel
theorem dX7_compare_0 : decode cX7_compare 0 = .ok (.iconst 0, 1) := by decide +kernel
theorem dX7_compare_1 : decode cX7_compare 1 = .ok (.istore_n 3, 1) := by decide +kernel
theorem dX7_compare_2 : decode cX7_compare 2 = .ok (.iload_n 3, 1) := by decide +kernel
theorem dX7_compare_3 : decode cX7_compare 3 = .ok (.aload_n 0, 1) := by decide +kernel
theorem dX7_compare_4 : decode cX7_compare 4 = .ok (.getfield 14, 3) := by decide +kernel
theorem dX7_compare_7 : decode cX7_compare 7 = .ok (.iload_n 1, 1) := by decide +kernel
theorem dX7_compare_8 : decode cX7_compare 8 = .ok (.iaload, 1) := by decide +kernel
theorem dX7_compare_9 : decode cX7_compare 9 = .ok (.if_icmp .ge 133, 3) := by decide +kernel
theorem dX7_compare_12 : decode cX7_compare 12 = .ok (.aload_n 0, 1) := by decide +kernel
theorem dX7_compare_13 : decode cX7_compare 13 = .ok (.getfield 8, 3) := by decide +kernel
theorem dX7_compare_16 : decode cX7_compare 16 = .ok (.bipush 95, 2) := by decide +kernel
theorem dX7_compare_18 : decode cX7_compare 18 = .ok (.iload_n 1, 1) := by decide +kernel
theorem dX7_compare_19 : decode cX7_compare 19 = .ok (.imul, 1) := by decide +kernel
theorem dX7_compare_20 : decode cX7_compare 20 = .ok (.iload_n 3, 1) := by decide +kernel
theorem dX7_compare_21 : decode cX7_compare 21 = .ok (.iadd, 1) := by decide +kernel
theorem dX7_compare_22 : decode cX7_compare 22 = .ok (.iaload, 1) := by decide +kernel
theorem dX7_compare_23 : decode cX7_compare 23 = .ok (.istore 4, 2) := by decide +kernel
theorem dX7_compare_25 : decode cX7_compare 25 = .ok (.aload_n 0, 1) := by decide +kernel
theorem dX7_compare_26 : decode cX7_compare 26 = .ok (.getfield 8, 3) := by decide +kernel
theorem dX7_compare_29 : decode cX7_compare 29 = .ok (.bipush 95, 2) := by decide +kernel
theorem dX7_compare_31 : decode cX7_compare 31 = .ok (.iload_n 2, 1) := by decide +kernel
theorem dX7_compare_32 : decode cX7_compare 32 = .ok (.imul, 1) := by decide +kernel
theorem dX7_compare_33 : decode cX7_compare 33 = .ok (.iload_n 3, 1) := by decide +kernel
theorem dX7_compare_34 : decode cX7_compare 34 = .ok (.iadd, 1) := by decide +kernel
theorem dX7_compare_35 : decode cX7_compare 35 = .ok (.iaload, 1) := by decide +kernel
theorem dX7_compare_36 : decode cX7_compare 36 = .ok (.istore 5, 2) := by decide +kernel
theorem dX7_compare_38 : decode cX7_compare 38 = .ok (.iload 4, 2) := by decide +kernel
theorem dX7_compare_40 : decode cX7_compare 40 = .ok (.iload 5, 2) := by decide +kernel
theorem dX7_compare_42 : decode cX7_compare 42 = .ok (.if_icmp .eq 36, 3) := by decide +kernel
theorem dX7_compare_45 : decode cX7_compare 45 = .ok (.iload 4, 2) := by decide +kernel
theorem dX7_compare_47 : decode cX7_compare 47 = .ok (.iconst (-1), 1) := by decide +kernel
theorem dX7_compare_48 : decode cX7_compare 48 = .ok (.if_icmp .ne 7, 3) := by decide +kernel
theorem dX7_compare_51 : decode cX7_compare 51 = .ok (.iconst 3, 1) := by decide +kernel
theorem dX7_compare_52 : decode cX7_compare 52 = .ok (.goto 5, 3) := by decide +kernel
theorem dX7_compare_55 : decode cX7_compare 55 = .ok (.iload 4, 2) := by decide +kernel
theorem dX7_compare_57 : decode cX7_compare 57 = .ok (.iload 5, 2) := by decide +kernel
theorem dX7_compare_59 : decode cX7_compare 59 = .ok (.iconst (-1), 1) := by decide +kernel
theorem dX7_compare_60 : decode cX7_compare 60 = .ok (.if_icmp .ne 7, 3) := by decide +kernel
theorem dX7_compare_63 : decode cX7_compare 63 = .ok (.iconst 3, 1) := by decide +kernel
theorem dX7_compare_64 : decode cX7_compare 64 = .ok (.goto 5, 3) := by decide +kernel
theorem dX7_compare_67 : decode cX7_compare 67 = .ok (.iload 5, 2) := by decide +kernel
theorem dX7_compare_69 : decode cX7_compare 69 = .ok (.if_icmp .ge 7, 3) := by decide +kernel
theorem dX7_compare_72 : decode cX7_compare 72 = .ok (.iconst (-1), 1) := by decide +kernel
theorem dX7_compare_73 : decode cX7_compare 73 = .ok (.goto 4, 3) := by decide +kernel
theorem dX7_compare_76 : decode cX7_compare 76 = .ok (.iconst 1, 1) := by decide +kernel
theorem dX7_compare_77 : decode cX7_compare 77 = .ok (.ireturn, 1) := by decide +kernel
theorem dX7_compare_78 : decode cX7_compare 78 = .ok (.iinc 3 1, 3) := by decide +kernel
theorem dX7_compare_81 : decode cX7_compare 81 = .ok (.iload 4, 2) := by decide +kernel
theorem dX7_compare_83 : decode cX7_compare 83 = .ok (.iconst (-1), 1) := by decide +kernel
theorem dX7_compare_84 : decode cX7_compare 84 = .ok (.if_icmp .ne 6, 3) := by decide +kernel
theorem dX7_compare_87 : decode cX7_compare 87 = .ok (.goto (-85), 3) := by decide +kernel
theorem dX7_compare_90 : decode cX7_compare 90 = .ok (.aload_n 0, 1) := by decide +kernel
theorem dX7_compare_91 : decode cX7_compare 91 = .ok (.getfield 8, 3) := by decide +kernel
theorem dX7_compare_94 : decode cX7_compare 94 = .ok (.bipush 95, 2) := by decide +kernel
theorem dX7_compare_96 : decode cX7_compare 96 = .ok (.iload_n 1, 1) := by decide +kernel
theorem dX7_compare_97 : decode cX7_compare 97 = .ok (.imul, 1) := by decide +kernel
theorem dX7_compare_98 : decode cX7_compare 98 = .ok (.iload_n 3, 1) := by decide +kernel
theorem dX7_compare_99 : decode cX7_compare 99 = .ok (.iadd, 1) := by decide +kernel
theorem dX7_compare_100 : decode cX7_compare 100 = .ok (.iaload, 1) := by decide +kernel
theorem dX7_compare_101 : decode cX7_compare 101 = .ok (.istore 6, 2) := by decide +kernel
theorem dX7_compare_103 : decode cX7_compare 103 = .ok (.aload_n 0, 1) := by decide +kernel
theorem dX7_compare_104 : decode cX7_compare 104 = .ok (.getfield 8, 3) := by decide +kernel
theorem dX7_compare_107 : decode cX7_compare 107 = .ok (.bipush 95, 2) := by decide +kernel
theorem dX7_compare_109 : decode cX7_compare 109 = .ok (.iload_n 2, 1) := by decide +kernel
theorem dX7_compare_110 : decode cX7_compare 110 = .ok (.imul, 1) := by decide +kernel
theorem dX7_compare_111 : decode cX7_compare 111 = .ok (.iload_n 3, 1) := by decide +kernel
theorem dX7_compare_112 : decode cX7_compare 112 = .ok (.iadd, 1) := by decide +kernel
theorem dX7_compare_113 : decode cX7_compare 113 = .ok (.iaload, 1) := by decide +kernel
theorem dX7_compare_114 : decode cX7_compare 114 = .ok (.istore 7, 2) := by decide +kernel
theorem dX7_compare_116 : decode cX7_compare 116 = .ok (.iload 6, 2) := by decide +kernel
theorem dX7_compare_118 : decode cX7_compare 118 = .ok (.iload 7, 2) := by decide +kernel
theorem dX7_compare_120 : decode cX7_compare 120 = .ok (.if_icmp .eq 16, 3) := by decide +kernel
theorem dX7_compare_123 : decode cX7_compare 123 = .ok (.iload 6, 2) := by decide +kernel
theorem dX7_compare_125 : decode cX7_compare 125 = .ok (.iload 7, 2) := by decide +kernel
theorem dX7_compare_127 : decode cX7_compare 127 = .ok (.if_icmp .ge 7, 3) := by decide +kernel
theorem dX7_compare_130 : decode cX7_compare 130 = .ok (.iconst (-1), 1) := by decide +kernel
theorem dX7_compare_131 : decode cX7_compare 131 = .ok (.goto 4, 3) := by decide +kernel
theorem dX7_compare_134 : decode cX7_compare 134 = .ok (.iconst 1, 1) := by decide +kernel
theorem dX7_compare_135 : decode cX7_compare 135 = .ok (.ireturn, 1) := by decide +kernel
theorem dX7_compare_136 : decode cX7_compare 136 = .ok (.iinc 3 1, 3) := by decide +kernel
theorem dX7_compare_139 : decode cX7_compare 139 = .ok (.goto (-137), 3) := by decide +kernel
theorem dX7_compare_142 : decode cX7_compare 142 = .ok (.iconst 0, 1) := by decide +kernel
theorem dX7_compare_143 : decode cX7_compare 143 = .ok (.ireturn, 1) := by decide +kernel
theorem dX7_word_0 : decode cX7_word 0 = .ok (.aload_n 0, 1) := by decide +kernel
theorem dX7_word_1 : decode cX7_word 1 = .ok (.iload_n 1, 1) := by decide +kernel
theorem dX7_word_2 : decode cX7_word 2 = .ok (.iconst 0, 1) := by decide +kernel
theorem dX7_word_3 : decode cX7_word 3 = .ok (.sipush 299, 3) := by decide +kernel
theorem dX7_word_6 : decode cX7_word 6 = .ok (.invokestatic 110, 3) := by decide +kernel
theorem dX7_word_9 : decode cX7_word 9 = .ok (.ifCond .eq 13, 3) := by decide +kernel
theorem dX7_word_12 : decode cX7_word 12 = .ok (.iload_n 2, 1) := by decide +kernel
theorem dX7_word_13 : decode cX7_word 13 = .ok (.iconst 0, 1) := by decide +kernel
theorem dX7_word_14 : decode cX7_word 14 = .ok (.bipush 36, 2) := by decide +kernel
theorem dX7_word_16 : decode cX7_word 16 = .ok (.invokestatic 110, 3) := by decide +kernel
theorem dX7_word_19 : decode cX7_word 19 = .ok (.ifCond .ne 7, 3) := by decide +kernel
theorem dX7_word_22 : decode cX7_word 22 = .ok (.iconst 1, 1) := by decide +kernel
theorem dX7_word_23 : decode cX7_word 23 = .ok (.goto 4, 3) := by decide +kernel
theorem dX7_word_26 : decode cX7_word 26 = .ok (.iconst 0, 1) := by decide +kernel
theorem dX7_word_27 : decode cX7_word 27 = .ok (.iconst 1, 1) := by decide +kernel
theorem dX7_word_28 : decode cX7_word 28 = .ok (.invokevirtual 114, 3) := by decide +kernel
theorem dX7_word_31 : decode cX7_word 31 = .ok (.ifCond .eq 4, 3) := by decide +kernel
theorem dX7_word_34 : decode cX7_word 34 = .ok (.return_, 1) := by decide +kernel
theorem dX7_word_35 : decode cX7_word 35 = .ok (.aload_n 0, 1) := by decide +kernel
theorem dX7_word_36 : decode cX7_word 36 = .ok (.getfield 17, 3) := by decide +kernel
theorem dX7_word_39 : decode cX7_word 39 = .ok (.iload_n 1, 1) := by decide +kernel
theorem dX7_word_40 : decode cX7_word 40 = .ok (.iload_n 2, 1) := by decide +kernel
theorem dX7_word_41 : decode cX7_word 41 = .ok (.iastore, 1) := by decide +kernel
theorem dX7_word_42 : decode cX7_word 42 = .ok (.aload_n 0, 1) := by decide +kernel
theorem dX7_word_43 : decode cX7_word 43 = .ok (.getfield 20, 3) := by decide +kernel
theorem dX7_word_46 : decode cX7_word 46 = .ok (.iload_n 1, 1) := by decide +kernel
theorem dX7_word_47 : decode cX7_word 47 = .ok (.iload_n 3, 1) := by decide +kernel
theorem dX7_word_48 : decode cX7_word 48 = .ok (.iastore, 1) := by decide +kernel
theorem dX7_word_49 : decode cX7_word 49 = .ok (.aload_n 0, 1) := by decide +kernel
theorem dX7_word_50 : decode cX7_word 50 = .ok (.getfield 23, 3) := by decide +kernel
theorem dX7_word_53 : decode cX7_word 53 = .ok (.iload_n 1, 1) := by decide +kernel
theorem dX7_word_54 : decode cX7_word 54 = .ok (.iload 4, 2) := by decide +kernel
theorem dX7_word_56 : decode cX7_word 56 = .ok (.iastore, 1) := by decide +kernel
theorem dX7_word_57 : decode cX7_word 57 = .ok (.aload_n 0, 1) := by decide +kernel
theorem dX7_word_58 : decode cX7_word 58 = .ok (.getfield 26, 3) := by decide +kernel
theorem dX7_word_61 : decode cX7_word 61 = .ok (.iload_n 1, 1) := by decide +kernel
theorem dX7_word_62 : decode cX7_word 62 = .ok (.iload 5, 2) := by decide +kernel
theorem dX7_word_64 : decode cX7_word 64 = .ok (.iastore, 1) := by decide +kernel
theorem dX7_word_65 : decode cX7_word 65 = .ok (.return_, 1) := by decide +kernel
theorem dX7_becomesReady_0 : decode cX7_becomesReady 0 = .ok (.aload_n 0, 1) := by decide +kernel
theorem dX7_becomesReady_1 : decode cX7_becomesReady 1 = .ok (.getfield 29, 3) := by decide +kernel
theorem dX7_becomesReady_4 : decode cX7_becomesReady 4 = .ok (.iload_n 1, 1) := by decide +kernel
theorem dX7_becomesReady_5 : decode cX7_becomesReady 5 = .ok (.iconst 0, 1) := by decide +kernel
theorem dX7_becomesReady_6 : decode cX7_becomesReady 6 = .ok (.iastore, 1) := by decide +kernel
theorem dX7_becomesReady_7 : decode cX7_becomesReady 7 = .ok (.aload_n 0, 1) := by decide +kernel
theorem dX7_becomesReady_8 : decode cX7_becomesReady 8 = .ok (.dup, 1) := by decide +kernel
theorem dX7_becomesReady_9 : decode cX7_becomesReady 9 = .ok (.getfield 118, 3) := by decide +kernel
theorem dX7_becomesReady_12 : decode cX7_becomesReady 12 = .ok (.iconst 1, 1) := by decide +kernel
theorem dX7_becomesReady_13 : decode cX7_becomesReady 13 = .ok (.iadd, 1) := by decide +kernel
theorem dX7_becomesReady_14 : decode cX7_becomesReady 14 = .ok (.putfield 118, 3) := by decide +kernel
theorem dX7_becomesReady_17 : decode cX7_becomesReady 17 = .ok (.aload_n 0, 1) := by decide +kernel
theorem dX7_becomesReady_18 : decode cX7_becomesReady 18 = .ok (.getfield 81, 3) := by decide +kernel
theorem dX7_becomesReady_21 : decode cX7_becomesReady 21 = .ok (.iload_n 1, 1) := by decide +kernel
theorem dX7_becomesReady_22 : decode cX7_becomesReady 22 = .ok (.aload_n 0, 1) := by decide +kernel
theorem dX7_becomesReady_23 : decode cX7_becomesReady 23 = .ok (.getfield 118, 3) := by decide +kernel
theorem dX7_becomesReady_26 : decode cX7_becomesReady 26 = .ok (.iastore, 1) := by decide +kernel
theorem dX7_becomesReady_27 : decode cX7_becomesReady 27 = .ok (.return_, 1) := by decide +kernel
theorem dX7_create_0 : decode cX7_create 0 = .ok (.aload_n 0, 1) := by decide +kernel
theorem dX7_create_1 : decode cX7_create 1 = .ok (.getfield 121, 3) := by decide +kernel
theorem dX7_create_4 : decode cX7_create 4 = .ok (.istore_n 3, 1) := by decide +kernel
theorem dX7_create_5 : decode cX7_create 5 = .ok (.aload_n 0, 1) := by decide +kernel
theorem dX7_create_6 : decode cX7_create 6 = .ok (.dup, 1) := by decide +kernel
theorem dX7_create_7 : decode cX7_create 7 = .ok (.getfield 121, 3) := by decide +kernel
theorem dX7_create_10 : decode cX7_create 10 = .ok (.iconst 1, 1) := by decide +kernel
theorem dX7_create_11 : decode cX7_create 11 = .ok (.iadd, 1) := by decide +kernel
theorem dX7_create_12 : decode cX7_create 12 = .ok (.putfield 121, 3) := by decide +kernel
theorem dX7_create_15 : decode cX7_create 15 = .ok (.iconst 0, 1) := by decide +kernel
theorem dX7_create_16 : decode cX7_create 16 = .ok (.istore 4, 2) := by decide +kernel
theorem dX7_create_18 : decode cX7_create 18 = .ok (.iload 4, 2) := by decide +kernel
theorem dX7_create_20 : decode cX7_create 20 = .ok (.bipush 8, 2) := by decide +kernel
theorem dX7_create_22 : decode cX7_create 22 = .ok (.if_icmp .ge 22, 3) := by decide +kernel
theorem dX7_create_25 : decode cX7_create 25 = .ok (.aload_n 0, 1) := by decide +kernel
theorem dX7_create_26 : decode cX7_create 26 = .ok (.bipush 8, 2) := by decide +kernel
theorem dX7_create_28 : decode cX7_create 28 = .ok (.iload_n 3, 1) := by decide +kernel
theorem dX7_create_29 : decode cX7_create 29 = .ok (.imul, 1) := by decide +kernel
theorem dX7_create_30 : decode cX7_create 30 = .ok (.iload 4, 2) := by decide +kernel
theorem dX7_create_32 : decode cX7_create 32 = .ok (.iadd, 1) := by decide +kernel
theorem dX7_create_33 : decode cX7_create 33 = .ok (.iconst 0, 1) := by decide +kernel
theorem dX7_create_34 : decode cX7_create 34 = .ok (.iconst 0, 1) := by decide +kernel
theorem dX7_create_35 : decode cX7_create 35 = .ok (.invokevirtual 124, 3) := by decide +kernel
theorem dX7_create_38 : decode cX7_create 38 = .ok (.iinc 4 1, 3) := by decide +kernel
theorem dX7_create_41 : decode cX7_create 41 = .ok (.goto (-23), 3) := by decide +kernel
theorem dX7_create_44 : decode cX7_create 44 = .ok (.aload_n 0, 1) := by decide +kernel
theorem dX7_create_45 : decode cX7_create 45 = .ok (.getfield 32, 3) := by decide +kernel
theorem dX7_create_48 : decode cX7_create 48 = .ok (.iload_n 3, 1) := by decide +kernel
theorem dX7_create_49 : decode cX7_create 49 = .ok (.iload_n 1, 1) := by decide +kernel
theorem dX7_create_50 : decode cX7_create 50 = .ok (.iastore, 1) := by decide +kernel
theorem dX7_create_51 : decode cX7_create 51 = .ok (.aload_n 0, 1) := by decide +kernel
theorem dX7_create_52 : decode cX7_create 52 = .ok (.getfield 35, 3) := by decide +kernel
theorem dX7_create_55 : decode cX7_create 55 = .ok (.iload_n 3, 1) := by decide +kernel
theorem dX7_create_56 : decode cX7_create 56 = .ok (.iload_n 2, 1) := by decide +kernel
theorem dX7_create_57 : decode cX7_create 57 = .ok (.iastore, 1) := by decide +kernel
theorem dX7_create_58 : decode cX7_create 58 = .ok (.aload_n 0, 1) := by decide +kernel
theorem dX7_create_59 : decode cX7_create 59 = .ok (.getfield 38, 3) := by decide +kernel
theorem dX7_create_62 : decode cX7_create 62 = .ok (.iload_n 3, 1) := by decide +kernel
theorem dX7_create_63 : decode cX7_create 63 = .ok (.iconst (-1), 1) := by decide +kernel
