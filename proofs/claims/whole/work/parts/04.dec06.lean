theorem dX5_tryLeg_232 : decode cX5_tryLeg 232 = .ok (.aload_n 0, 1) := by decide +kernel
theorem dX5_tryLeg_233 : decode cX5_tryLeg 233 = .ok (.getfield 81, 3) := by decide +kernel
theorem dX5_tryLeg_236 : decode cX5_tryLeg 236 = .ok (.iload_n 1, 1) := by decide +kernel
theorem dX5_tryLeg_237 : decode cX5_tryLeg 237 = .ok (.iload 11, 2) := by decide +kernel
theorem dX5_tryLeg_239 : decode cX5_tryLeg 239 = .ok (.iastore, 1) := by decide +kernel
theorem dX5_tryLeg_240 : decode cX5_tryLeg 240 = .ok (.aload_n 0, 1) := by decide +kernel
theorem dX5_tryLeg_241 : decode cX5_tryLeg 241 = .ok (.getfield 84, 3) := by decide +kernel
theorem dX5_tryLeg_244 : decode cX5_tryLeg 244 = .ok (.iload_n 1, 1) := by decide +kernel
theorem dX5_tryLeg_245 : decode cX5_tryLeg 245 = .ok (.iload 10, 2) := by decide +kernel
theorem dX5_tryLeg_247 : decode cX5_tryLeg 247 = .ok (.iastore, 1) := by decide +kernel
theorem dX5_tryLeg_248 : decode cX5_tryLeg 248 = .ok (.aload_n 0, 1) := by decide +kernel
theorem dX5_tryLeg_249 : decode cX5_tryLeg 249 = .ok (.getfield 87, 3) := by decide +kernel
theorem dX5_tryLeg_252 : decode cX5_tryLeg 252 = .ok (.iload_n 1, 1) := by decide +kernel
theorem dX5_tryLeg_253 : decode cX5_tryLeg 253 = .ok (.iload 10, 2) := by decide +kernel
theorem dX5_tryLeg_255 : decode cX5_tryLeg 255 = .ok (.iload 12, 2) := by decide +kernel
theorem dX5_tryLeg_257 : decode cX5_tryLeg 257 = .ok (.iadd, 1) := by decide +kernel
theorem dX5_tryLeg_258 : decode cX5_tryLeg 258 = .ok (.iastore, 1) := by decide +kernel
theorem dX5_tryLeg_259 : decode cX5_tryLeg 259 = .ok (.iload 11, 2) := by decide +kernel
theorem dX5_tryLeg_261 : decode cX5_tryLeg 261 = .ok (.iload 5, 2) := by decide +kernel
theorem dX5_tryLeg_263 : decode cX5_tryLeg 263 = .ok (.if_icmp .eq 30, 3) := by decide +kernel
theorem dX5_tryLeg_266 : decode cX5_tryLeg 266 = .ok (.aload_n 0, 1) := by decide +kernel
theorem dX5_tryLeg_267 : decode cX5_tryLeg 267 = .ok (.iload_n 1, 1) := by decide +kernel
theorem dX5_tryLeg_268 : decode cX5_tryLeg 268 = .ok (.iconst 1, 1) := by decide +kernel
theorem dX5_tryLeg_269 : decode cX5_tryLeg 269 = .ok (.iadd, 1) := by decide +kernel
theorem dX5_tryLeg_270 : decode cX5_tryLeg 270 = .ok (.iload_n 2, 1) := by decide +kernel
theorem dX5_tryLeg_271 : decode cX5_tryLeg 271 = .ok (.iload 11, 2) := by decide +kernel
theorem dX5_tryLeg_273 : decode cX5_tryLeg 273 = .ok (.iload 10, 2) := by decide +kernel
theorem dX5_tryLeg_275 : decode cX5_tryLeg 275 = .ok (.iload 12, 2) := by decide +kernel
theorem dX5_tryLeg_277 : decode cX5_tryLeg 277 = .ok (.iadd, 1) := by decide +kernel
theorem dX5_tryLeg_278 : decode cX5_tryLeg 278 = .ok (.iload 5, 2) := by decide +kernel
theorem dX5_tryLeg_280 : decode cX5_tryLeg 280 = .ok (.iload 6, 2) := by decide +kernel
theorem dX5_tryLeg_282 : decode cX5_tryLeg 282 = .ok (.iconst 1, 1) := by decide +kernel
theorem dX5_tryLeg_283 : decode cX5_tryLeg 283 = .ok (.iload 11, 2) := by decide +kernel
theorem dX5_tryLeg_285 : decode cX5_tryLeg 285 = .ok (.ishl, 1) := by decide +kernel
theorem dX5_tryLeg_286 : decode cX5_tryLeg 286 = .ok (.ior, 1) := by decide +kernel
theorem dX5_tryLeg_287 : decode cX5_tryLeg 287 = .ok (.invokevirtual 150, 3) := by decide +kernel
theorem dX5_tryLeg_290 : decode cX5_tryLeg 290 = .ok (.goto 94, 3) := by decide +kernel
theorem dX5_tryLeg_293 : decode cX5_tryLeg 293 = .ok (.aload_n 0, 1) := by decide +kernel
theorem dX5_tryLeg_294 : decode cX5_tryLeg 294 = .ok (.iload_n 1, 1) := by decide +kernel
theorem dX5_tryLeg_295 : decode cX5_tryLeg 295 = .ok (.iconst 1, 1) := by decide +kernel
theorem dX5_tryLeg_296 : decode cX5_tryLeg 296 = .ok (.iadd, 1) := by decide +kernel
theorem dX5_tryLeg_297 : decode cX5_tryLeg 297 = .ok (.invokevirtual 154, 3) := by decide +kernel
theorem dX5_tryLeg_300 : decode cX5_tryLeg 300 = .ok (.ifCond .ne 6, 3) := by decide +kernel
theorem dX5_tryLeg_303 : decode cX5_tryLeg 303 = .ok (.goto 81, 3) := by decide +kernel
theorem dX5_tryLeg_306 : decode cX5_tryLeg 306 = .ok (.aload_n 0, 1) := by decide +kernel
theorem dX5_tryLeg_307 : decode cX5_tryLeg 307 = .ok (.iload_n 1, 1) := by decide +kernel
theorem dX5_tryLeg_308 : decode cX5_tryLeg 308 = .ok (.iconst 1, 1) := by decide +kernel
theorem dX5_tryLeg_309 : decode cX5_tryLeg 309 = .ok (.iadd, 1) := by decide +kernel
theorem dX5_tryLeg_310 : decode cX5_tryLeg 310 = .ok (.putfield 142, 3) := by decide +kernel
theorem dX5_tryLeg_313 : decode cX5_tryLeg 313 = .ok (.iconst 0, 1) := by decide +kernel
theorem dX5_tryLeg_314 : decode cX5_tryLeg 314 = .ok (.istore 13, 2) := by decide +kernel
theorem dX5_tryLeg_316 : decode cX5_tryLeg 316 = .ok (.iload 13, 2) := by decide +kernel
theorem dX5_tryLeg_318 : decode cX5_tryLeg 318 = .ok (.iload_n 1, 1) := by decide +kernel
theorem dX5_tryLeg_319 : decode cX5_tryLeg 319 = .ok (.if_icmp .gt 65, 3) := by decide +kernel
theorem dX5_tryLeg_322 : decode cX5_tryLeg 322 = .ok (.aload_n 0, 1) := by decide +kernel
theorem dX5_tryLeg_323 : decode cX5_tryLeg 323 = .ok (.getfield 90, 3) := by decide +kernel
theorem dX5_tryLeg_326 : decode cX5_tryLeg 326 = .ok (.iload 13, 2) := by decide +kernel
theorem dX5_tryLeg_328 : decode cX5_tryLeg 328 = .ok (.aload_n 0, 1) := by decide +kernel
theorem dX5_tryLeg_329 : decode cX5_tryLeg 329 = .ok (.getfield 78, 3) := by decide +kernel
theorem dX5_tryLeg_332 : decode cX5_tryLeg 332 = .ok (.iload 13, 2) := by decide +kernel
theorem dX5_tryLeg_334 : decode cX5_tryLeg 334 = .ok (.iaload, 1) := by decide +kernel
theorem dX5_tryLeg_335 : decode cX5_tryLeg 335 = .ok (.iastore, 1) := by decide +kernel
theorem dX5_tryLeg_336 : decode cX5_tryLeg 336 = .ok (.aload_n 0, 1) := by decide +kernel
theorem dX5_tryLeg_337 : decode cX5_tryLeg 337 = .ok (.getfield 93, 3) := by decide +kernel
theorem dX5_tryLeg_340 : decode cX5_tryLeg 340 = .ok (.iload 13, 2) := by decide +kernel
theorem dX5_tryLeg_342 : decode cX5_tryLeg 342 = .ok (.aload_n 0, 1) := by decide +kernel
theorem dX5_tryLeg_343 : decode cX5_tryLeg 343 = .ok (.getfield 81, 3) := by decide +kernel
theorem dX5_tryLeg_346 : decode cX5_tryLeg 346 = .ok (.iload 13, 2) := by decide +kernel
theorem dX5_tryLeg_348 : decode cX5_tryLeg 348 = .ok (.iaload, 1) := by decide +kernel
theorem dX5_tryLeg_349 : decode cX5_tryLeg 349 = .ok (.iastore, 1) := by decide +kernel
theorem dX5_tryLeg_350 : decode cX5_tryLeg 350 = .ok (.aload_n 0, 1) := by decide +kernel
theorem dX5_tryLeg_351 : decode cX5_tryLeg 351 = .ok (.getfield 96, 3) := by decide +kernel
theorem dX5_tryLeg_354 : decode cX5_tryLeg 354 = .ok (.iload 13, 2) := by decide +kernel
theorem dX5_tryLeg_356 : decode cX5_tryLeg 356 = .ok (.aload_n 0, 1) := by decide +kernel
theorem dX5_tryLeg_357 : decode cX5_tryLeg 357 = .ok (.getfield 84, 3) := by decide +kernel
theorem dX5_tryLeg_360 : decode cX5_tryLeg 360 = .ok (.iload 13, 2) := by decide +kernel
theorem dX5_tryLeg_362 : decode cX5_tryLeg 362 = .ok (.iaload, 1) := by decide +kernel
theorem dX5_tryLeg_363 : decode cX5_tryLeg 363 = .ok (.iastore, 1) := by decide +kernel
theorem dX5_tryLeg_364 : decode cX5_tryLeg 364 = .ok (.aload_n 0, 1) := by decide +kernel
theorem dX5_tryLeg_365 : decode cX5_tryLeg 365 = .ok (.getfield 99, 3) := by decide +kernel
theorem dX5_tryLeg_368 : decode cX5_tryLeg 368 = .ok (.iload 13, 2) := by decide +kernel
theorem dX5_tryLeg_370 : decode cX5_tryLeg 370 = .ok (.aload_n 0, 1) := by decide +kernel
theorem dX5_tryLeg_371 : decode cX5_tryLeg 371 = .ok (.getfield 87, 3) := by decide +kernel
theorem dX5_tryLeg_374 : decode cX5_tryLeg 374 = .ok (.iload 13, 2) := by decide +kernel
theorem dX5_tryLeg_376 : decode cX5_tryLeg 376 = .ok (.iaload, 1) := by decide +kernel
theorem dX5_tryLeg_377 : decode cX5_tryLeg 377 = .ok (.iastore, 1) := by decide +kernel
theorem dX5_tryLeg_378 : decode cX5_tryLeg 378 = .ok (.iinc 13 1, 3) := by decide +kernel
theorem dX5_tryLeg_381 : decode cX5_tryLeg 381 = .ok (.goto (-65), 3) := by decide +kernel
theorem dX5_tryLeg_384 : decode cX5_tryLeg 384 = .ok (.iinc 11 1, 3) := by decide +kernel
theorem dX5_tryLeg_387 : decode cX5_tryLeg 387 = .ok (.goto (-234), 3) := by decide +kernel
theorem dX5_tryLeg_390 : decode cX5_tryLeg 390 = .ok (.iinc 7 1, 3) := by decide +kernel
theorem dX5_tryLeg_393 : decode cX5_tryLeg 393 = .ok (.goto (-390), 3) := by decide +kernel
theorem dX5_tryLeg_396 : decode cX5_tryLeg 396 = .ok (.return_, 1) := by decide +kernel
theorem dX5_findBest_0 : decode cX5_findBest 0 = .ok (.aload_n 0, 1) := by decide +kernel
theorem dX5_findBest_1 : decode cX5_findBest 1 = .ok (.iconst 0, 1) := by decide +kernel
theorem dX5_findBest_2 : decode cX5_findBest 2 = .ok (.putfield 142, 3) := by decide +kernel
theorem dX5_findBest_5 : decode cX5_findBest 5 = .ok (.aload_n 0, 1) := by decide +kernel
theorem dX5_findBest_6 : decode cX5_findBest 6 = .ok (.iconst 0, 1) := by decide +kernel
theorem dX5_findBest_7 : decode cX5_findBest 7 = .ok (.iload_n 1, 1) := by decide +kernel
theorem dX5_findBest_8 : decode cX5_findBest 8 = .ok (.iload_n 2, 1) := by decide +kernel
theorem dX5_findBest_9 : decode cX5_findBest 9 = .ok (.iload_n 3, 1) := by decide +kernel
theorem dX5_findBest_10 : decode cX5_findBest 10 = .ok (.iload 4, 2) := by decide +kernel
theorem dX5_findBest_12 : decode cX5_findBest 12 = .ok (.iconst 1, 1) := by decide +kernel
theorem dX5_findBest_13 : decode cX5_findBest 13 = .ok (.iload_n 2, 1) := by decide +kernel
theorem dX5_findBest_14 : decode cX5_findBest 14 = .ok (.ishl, 1) := by decide +kernel
theorem dX5_findBest_15 : decode cX5_findBest 15 = .ok (.invokevirtual 150, 3) := by decide +kernel
theorem dX5_findBest_18 : decode cX5_findBest 18 = .ok (.aload_n 0, 1) := by decide +kernel
theorem dX5_findBest_19 : decode cX5_findBest 19 = .ok (.getfield 142, 3) := by decide +kernel
theorem dX5_findBest_22 : decode cX5_findBest 22 = .ok (.ifCond .le 7, 3) := by decide +kernel
theorem dX5_findBest_25 : decode cX5_findBest 25 = .ok (.iconst 1, 1) := by decide +kernel
theorem dX5_findBest_26 : decode cX5_findBest 26 = .ok (.goto 4, 3) := by decide +kernel
theorem dX5_findBest_29 : decode cX5_findBest 29 = .ok (.iconst 0, 1) := by decide +kernel
theorem dX5_findBest_30 : decode cX5_findBest 30 = .ok (.ireturn, 1) := by decide +kernel
theorem dX5_ride_0 : decode cX5_ride 0 = .ok (.iload_n 2, 1) := by decide +kernel
theorem dX5_ride_1 : decode cX5_ride 1 = .ok (.istore_n 3, 1) := by decide +kernel
theorem dX5_ride_2 : decode cX5_ride 2 = .ok (.iconst 0, 1) := by decide +kernel
theorem dX5_ride_3 : decode cX5_ride 3 = .ok (.istore 4, 2) := by decide +kernel
theorem dX5_ride_5 : decode cX5_ride 5 = .ok (.iload 4, 2) := by decide +kernel
theorem dX5_ride_7 : decode cX5_ride 7 = .ok (.aload_n 0, 1) := by decide +kernel
theorem dX5_ride_8 : decode cX5_ride 8 = .ok (.getfield 142, 3) := by decide +kernel
theorem dX5_ride_11 : decode cX5_ride 11 = .ok (.if_icmp .ge 249, 3) := by decide +kernel
theorem dX5_ride_14 : decode cX5_ride 14 = .ok (.aload_n 0, 1) := by decide +kernel
theorem dX5_ride_15 : decode cX5_ride 15 = .ok (.getfield 90, 3) := by decide +kernel
theorem dX5_ride_18 : decode cX5_ride 18 = .ok (.iload 4, 2) := by decide +kernel
theorem dX5_ride_20 : decode cX5_ride 20 = .ok (.iaload, 1) := by decide +kernel
theorem dX5_ride_21 : decode cX5_ride 21 = .ok (.istore 5, 2) := by decide +kernel
theorem dX5_ride_23 : decode cX5_ride 23 = .ok (.bipush 8, 2) := by decide +kernel
theorem dX5_ride_25 : decode cX5_ride 25 = .ok (.bipush 24, 2) := by decide +kernel
theorem dX5_ride_27 : decode cX5_ride 27 = .ok (.iload_n 1, 1) := by decide +kernel
theorem dX5_ride_28 : decode cX5_ride 28 = .ok (.imul, 1) := by decide +kernel
theorem dX5_ride_29 : decode cX5_ride 29 = .ok (.aload_n 0, 1) := by decide +kernel
theorem dX5_ride_30 : decode cX5_ride 30 = .ok (.getfield 72, 3) := by decide +kernel
theorem dX5_ride_33 : decode cX5_ride 33 = .ok (.iload_n 1, 1) := by decide +kernel
theorem dX5_ride_34 : decode cX5_ride 34 = .ok (.iaload, 1) := by decide +kernel
theorem dX5_ride_35 : decode cX5_ride 35 = .ok (.iadd, 1) := by decide +kernel
theorem dX5_ride_36 : decode cX5_ride 36 = .ok (.imul, 1) := by decide +kernel
theorem dX5_ride_37 : decode cX5_ride 37 = .ok (.istore 6, 2) := by decide +kernel
theorem dX5_ride_39 : decode cX5_ride 39 = .ok (.aload_n 0, 1) := by decide +kernel
theorem dX5_ride_40 : decode cX5_ride 40 = .ok (.getfield 69, 3) := by decide +kernel
theorem dX5_ride_43 : decode cX5_ride 43 = .ok (.iload 6, 2) := by decide +kernel
theorem dX5_ride_45 : decode cX5_ride 45 = .ok (.iload 5, 2) := by decide +kernel
theorem dX5_ride_47 : decode cX5_ride 47 = .ok (.iastore, 1) := by decide +kernel
theorem dX5_ride_48 : decode cX5_ride 48 = .ok (.aload_n 0, 1) := by decide +kernel
theorem dX5_ride_49 : decode cX5_ride 49 = .ok (.getfield 69, 3) := by decide +kernel
theorem dX5_ride_52 : decode cX5_ride 52 = .ok (.iload 6, 2) := by decide +kernel
theorem dX5_ride_54 : decode cX5_ride 54 = .ok (.iconst 1, 1) := by decide +kernel
theorem dX5_ride_55 : decode cX5_ride 55 = .ok (.iadd, 1) := by decide +kernel
theorem dX5_ride_56 : decode cX5_ride 56 = .ok (.iload_n 3, 1) := by decide +kernel
theorem dX5_ride_57 : decode cX5_ride 57 = .ok (.iastore, 1) := by decide +kernel
theorem dX5_ride_58 : decode cX5_ride 58 = .ok (.aload_n 0, 1) := by decide +kernel
theorem dX5_ride_59 : decode cX5_ride 59 = .ok (.getfield 69, 3) := by decide +kernel
theorem dX5_ride_62 : decode cX5_ride 62 = .ok (.iload 6, 2) := by decide +kernel
theorem dX5_ride_64 : decode cX5_ride 64 = .ok (.iconst 2, 1) := by decide +kernel
theorem dX5_ride_65 : decode cX5_ride 65 = .ok (.iadd, 1) := by decide +kernel
theorem dX5_ride_66 : decode cX5_ride 66 = .ok (.aload_n 0, 1) := by decide +kernel
theorem dX5_ride_67 : decode cX5_ride 67 = .ok (.getfield 93, 3) := by decide +kernel
theorem dX5_ride_70 : decode cX5_ride 70 = .ok (.iload 4, 2) := by decide +kernel
theorem dX5_ride_72 : decode cX5_ride 72 = .ok (.iaload, 1) := by decide +kernel
theorem dX5_ride_73 : decode cX5_ride 73 = .ok (.iastore, 1) := by decide +kernel
theorem dX5_ride_74 : decode cX5_ride 74 = .ok (.aload_n 0, 1) := by decide +kernel
theorem dX5_ride_75 : decode cX5_ride 75 = .ok (.getfield 69, 3) := by decide +kernel
theorem dX5_ride_78 : decode cX5_ride 78 = .ok (.iload 6, 2) := by decide +kernel
theorem dX5_ride_80 : decode cX5_ride 80 = .ok (.iconst 3, 1) := by decide +kernel
theorem dX5_ride_81 : decode cX5_ride 81 = .ok (.iadd, 1) := by decide +kernel
theorem dX5_ride_82 : decode cX5_ride 82 = .ok (.aload_n 0, 1) := by decide +kernel
theorem dX5_ride_83 : decode cX5_ride 83 = .ok (.getfield 96, 3) := by decide +kernel
theorem dX5_ride_86 : decode cX5_ride 86 = .ok (.iload 4, 2) := by decide +kernel
theorem dX5_ride_88 : decode cX5_ride 88 = .ok (.iaload, 1) := by decide +kernel
theorem dX5_ride_89 : decode cX5_ride 89 = .ok (.iastore, 1) := by decide +kernel
theorem dX5_ride_90 : decode cX5_ride 90 = .ok (.aload_n 0, 1) := by decide +kernel
theorem dX5_ride_91 : decode cX5_ride 91 = .ok (.getfield 69, 3) := by decide +kernel
theorem dX5_ride_94 : decode cX5_ride 94 = .ok (.iload 6, 2) := by decide +kernel
theorem dX5_ride_96 : decode cX5_ride 96 = .ok (.iconst 4, 1) := by decide +kernel
theorem dX5_ride_97 : decode cX5_ride 97 = .ok (.iadd, 1) := by decide +kernel
theorem dX5_ride_98 : decode cX5_ride 98 = .ok (.aload_n 0, 1) := by decide +kernel
theorem dX5_ride_99 : decode cX5_ride 99 = .ok (.getfield 99, 3) := by decide +kernel
theorem dX5_ride_102 : decode cX5_ride 102 = .ok (.iload 4, 2) := by decide +kernel
theorem dX5_ride_104 : decode cX5_ride 104 = .ok (.iaload, 1) := by decide +kernel
theorem dX5_ride_105 : decode cX5_ride 105 = .ok (.iastore, 1) := by decide +kernel
theorem dX5_ride_106 : decode cX5_ride 106 = .ok (.aload_n 0, 1) := by decide +kernel
theorem dX5_ride_107 : decode cX5_ride 107 = .ok (.getfield 69, 3) := by decide +kernel
theorem dX5_ride_110 : decode cX5_ride 110 = .ok (.iload 6, 2) := by decide +kernel
theorem dX5_ride_112 : decode cX5_ride 112 = .ok (.iconst 5, 1) := by decide +kernel
theorem dX5_ride_113 : decode cX5_ride 113 = .ok (.iadd, 1) := by decide +kernel
theorem dX5_ride_114 : decode cX5_ride 114 = .ok (.iconst 0, 1) := by decide +kernel
theorem dX5_ride_115 : decode cX5_ride 115 = .ok (.iastore, 1) := by decide +kernel
theorem dX5_ride_116 : decode cX5_ride 116 = .ok (.aload_n 0, 1) := by decide +kernel
theorem dX5_ride_117 : decode cX5_ride 117 = .ok (.getfield 69, 3) := by decide +kernel
theorem dX5_ride_120 : decode cX5_ride 120 = .ok (.iload 6, 2) := by decide +kernel
theorem dX5_ride_122 : decode cX5_ride 122 = .ok (.bipush 6, 2) := by decide +kernel
theorem dX5_ride_124 : decode cX5_ride 124 = .ok (.iadd, 1) := by decide +kernel
theorem dX5_ride_125 : decode cX5_ride 125 = .ok (.aload_n 0, 1) := by decide +kernel
theorem dX5_ride_126 : decode cX5_ride 126 = .ok (.getfield 28, 3) := by decide +kernel
theorem dX5_ride_129 : decode cX5_ride 129 = .ok (.iload 5, 2) := by decide +kernel
theorem dX5_ride_131 : decode cX5_ride 131 = .ok (.iaload, 1) := by decide +kernel
theorem dX5_ride_132 : decode cX5_ride 132 = .ok (.iastore, 1) := by decide +kernel
theorem dX5_ride_133 : decode cX5_ride 133 = .ok (.aload_n 0, 1) := by decide +kernel
theorem dX5_ride_134 : decode cX5_ride 134 = .ok (.getfield 69, 3) := by decide +kernel
theorem dX5_ride_137 : decode cX5_ride 137 = .ok (.iload 6, 2) := by decide +kernel
theorem dX5_ride_139 : decode cX5_ride 139 = .ok (.bipush 7, 2) := by decide +kernel
theorem dX5_ride_141 : decode cX5_ride 141 = .ok (.iadd, 1) := by decide +kernel
theorem dX5_ride_142 : decode cX5_ride 142 = .ok (.aload_n 0, 1) := by decide +kernel
theorem dX5_ride_143 : decode cX5_ride 143 = .ok (.getfield 31, 3) := by decide +kernel
theorem dX5_ride_146 : decode cX5_ride 146 = .ok (.iload 5, 2) := by decide +kernel
theorem dX5_ride_148 : decode cX5_ride 148 = .ok (.iaload, 1) := by decide +kernel
theorem dX5_ride_149 : decode cX5_ride 149 = .ok (.iastore, 1) := by decide +kernel
theorem dX5_ride_150 : decode cX5_ride 150 = .ok (.aload_n 0, 1) := by decide +kernel
theorem dX5_ride_151 : decode cX5_ride 151 = .ok (.getfield 72, 3) := by decide +kernel
theorem dX5_ride_154 : decode cX5_ride 154 = .ok (.iload_n 1, 1) := by decide +kernel
theorem dX5_ride_155 : decode cX5_ride 155 = .ok (.dup2, 1) := by decide +kernel
theorem dX5_ride_156 : decode cX5_ride 156 = .ok (.iaload, 1) := by decide +kernel
theorem dX5_ride_157 : decode cX5_ride 157 = .ok (.iconst 1, 1) := by decide +kernel
theorem dX5_ride_158 : decode cX5_ride 158 = .ok (.iadd, 1) := by decide +kernel
theorem dX5_ride_159 : decode cX5_ride 159 = .ok (.iastore, 1) := by decide +kernel
theorem dX5_ride_160 : decode cX5_ride 160 = .ok (.aload_n 0, 1) := by decide +kernel
theorem dX5_ride_161 : decode cX5_ride 161 = .ok (.getfield 93, 3) := by decide +kernel
theorem dX5_ride_164 : decode cX5_ride 164 = .ok (.iload 4, 2) := by decide +kernel
theorem dX5_ride_166 : decode cX5_ride 166 = .ok (.iaload, 1) := by decide +kernel
theorem dX5_ride_167 : decode cX5_ride 167 = .ok (.istore_n 3, 1) := by decide +kernel
theorem dX5_ride_168 : decode cX5_ride 168 = .ok (.aload_n 0, 1) := by decide +kernel
theorem dX5_ride_169 : decode cX5_ride 169 = .ok (.getfield 28, 3) := by decide +kernel
theorem dX5_ride_172 : decode cX5_ride 172 = .ok (.iload 5, 2) := by decide +kernel
theorem dX5_ride_174 : decode cX5_ride 174 = .ok (.iload_n 3, 1) := by decide +kernel
theorem dX5_ride_175 : decode cX5_ride 175 = .ok (.iastore, 1) := by decide +kernel
theorem dX5_ride_176 : decode cX5_ride 176 = .ok (.aload_n 0, 1) := by decide +kernel
theorem dX5_ride_177 : decode cX5_ride 177 = .ok (.getfield 31, 3) := by decide +kernel
theorem dX5_ride_180 : decode cX5_ride 180 = .ok (.iload 5, 2) := by decide +kernel
theorem dX5_ride_182 : decode cX5_ride 182 = .ok (.iload 4, 2) := by decide +kernel
theorem dX5_ride_184 : decode cX5_ride 184 = .ok (.iconst 1, 1) := by decide +kernel
theorem dX5_ride_185 : decode cX5_ride 185 = .ok (.iadd, 1) := by decide +kernel
theorem dX5_ride_186 : decode cX5_ride 186 = .ok (.aload_n 0, 1) := by decide +kernel
theorem dX5_ride_187 : decode cX5_ride 187 = .ok (.getfield 142, 3) := by decide +kernel
theorem dX5_ride_190 : decode cX5_ride 190 = .ok (.if_icmp .ge 15, 3) := by decide +kernel
theorem dX5_ride_193 : decode cX5_ride 193 = .ok (.aload_n 0, 1) := by decide +kernel
theorem dX5_ride_194 : decode cX5_ride 194 = .ok (.getfield 96, 3) := by decide +kernel
theorem dX5_ride_197 : decode cX5_ride 197 = .ok (.iload 4, 2) := by decide +kernel
theorem dX5_ride_199 : decode cX5_ride 199 = .ok (.iconst 1, 1) := by decide +kernel
theorem dX5_ride_200 : decode cX5_ride 200 = .ok (.iadd, 1) := by decide +kernel
theorem dX5_ride_201 : decode cX5_ride 201 = .ok (.iaload, 1) := by decide +kernel
theorem dX5_ride_202 : decode cX5_ride 202 = .ok (.goto 10, 3) := by decide +kernel
theorem dX5_ride_205 : decode cX5_ride 205 = .ok (.aload_n 0, 1) := by decide +kernel
theorem dX5_ride_206 : decode cX5_ride 206 = .ok (.getfield 99, 3) := by decide +kernel
theorem dX5_ride_209 : decode cX5_ride 209 = .ok (.iload 4, 2) := by decide +kernel
theorem dX5_ride_211 : decode cX5_ride 211 = .ok (.iaload, 1) := by decide +kernel
theorem dX5_ride_212 : decode cX5_ride 212 = .ok (.aload_n 0, 1) := by decide +kernel
theorem dX5_ride_213 : decode cX5_ride 213 = .ok (.getfield 44, 3) := by decide +kernel
theorem dX5_ride_216 : decode cX5_ride 216 = .ok (.iadd, 1) := by decide +kernel
theorem dX5_ride_217 : decode cX5_ride 217 = .ok (.iastore, 1) := by decide +kernel
theorem dX5_ride_218 : decode cX5_ride 218 = .ok (.aload_n 0, 1) := by decide +kernel
theorem dX5_ride_219 : decode cX5_ride 219 = .ok (.getfield 38, 3) := by decide +kernel
theorem dX5_ride_222 : decode cX5_ride 222 = .ok (.iload 5, 2) := by decide +kernel
theorem dX5_ride_224 : decode cX5_ride 224 = .ok (.dup2, 1) := by decide +kernel
theorem dX5_ride_225 : decode cX5_ride 225 = .ok (.iaload, 1) := by decide +kernel
theorem dX5_ride_226 : decode cX5_ride 226 = .ok (.iconst 1, 1) := by decide +kernel
theorem dX5_ride_227 : decode cX5_ride 227 = .ok (.iadd, 1) := by decide +kernel
theorem dX5_ride_228 : decode cX5_ride 228 = .ok (.iastore, 1) := by decide +kernel
theorem dX5_ride_229 : decode cX5_ride 229 = .ok (.aload_n 0, 1) := by decide +kernel
theorem dX5_ride_230 : decode cX5_ride 230 = .ok (.getfield 41, 3) := by decide +kernel
theorem dX5_ride_233 : decode cX5_ride 233 = .ok (.iload 5, 2) := by decide +kernel
theorem dX5_ride_235 : decode cX5_ride 235 = .ok (.dup2, 1) := by decide +kernel
theorem dX5_ride_236 : decode cX5_ride 236 = .ok (.iaload, 1) := by decide +kernel
theorem dX5_ride_237 : decode cX5_ride 237 = .ok (.aload_n 0, 1) := by decide +kernel
theorem dX5_ride_238 : decode cX5_ride 238 = .ok (.getfield 99, 3) := by decide +kernel
theorem dX5_ride_241 : decode cX5_ride 241 = .ok (.iload 4, 2) := by decide +kernel
theorem dX5_ride_243 : decode cX5_ride 243 = .ok (.iaload, 1) := by decide +kernel
theorem dX5_ride_244 : decode cX5_ride 244 = .ok (.aload_n 0, 1) := by decide +kernel
theorem dX5_ride_245 : decode cX5_ride 245 = .ok (.getfield 96, 3) := by decide +kernel
theorem dX5_ride_248 : decode cX5_ride 248 = .ok (.iload 4, 2) := by decide +kernel
theorem dX5_ride_250 : decode cX5_ride 250 = .ok (.iaload, 1) := by decide +kernel
theorem dX5_ride_251 : decode cX5_ride 251 = .ok (.isub, 1) := by decide +kernel
theorem dX5_ride_252 : decode cX5_ride 252 = .ok (.iadd, 1) := by decide +kernel
theorem dX5_ride_253 : decode cX5_ride 253 = .ok (.iastore, 1) := by decide +kernel
theorem dX5_ride_254 : decode cX5_ride 254 = .ok (.iinc 4 1, 3) := by decide +kernel
theorem dX5_ride_257 : decode cX5_ride 257 = .ok (.goto (-252), 3) := by decide +kernel
theorem dX5_ride_260 : decode cX5_ride 260 = .ok (.return_, 1) := by decide +kernel
theorem dX5_call_0 : decode cX5_call 0 = .ok (.aload_n 0, 1) := by decide +kernel
theorem dX5_call_1 : decode cX5_call 1 = .ok (.iconst 0, 1) := by decide +kernel
theorem dX5_call_2 : decode cX5_call 2 = .ok (.putfield 102, 3) := by decide +kernel
theorem dX5_call_5 : decode cX5_call 5 = .ok (.iload_n 1, 1) := by decide +kernel
theorem dX5_call_6 : decode cX5_call 6 = .ok (.iconst 0, 1) := by decide +kernel
theorem dX5_call_7 : decode cX5_call 7 = .ok (.iconst 3, 1) := by decide +kernel
theorem dX5_call_8 : decode cX5_call 8 = .ok (.invokestatic 108, 3) := by decide +kernel
theorem dX5_call_11 : decode cX5_call 11 = .ok (.ifCond .eq 57, 3) := by decide +kernel
theorem dX5_call_14 : decode cX5_call 14 = .ok (.aload_n 0, 1) := by decide +kernel
theorem dX5_call_15 : decode cX5_call 15 = .ok (.iload_n 2, 1) := by decide +kernel
theorem dX5_call_16 : decode cX5_call 16 = .ok (.invokevirtual 118, 3) := by decide +kernel
theorem dX5_call_19 : decode cX5_call 19 = .ok (.ifCond .eq 49, 3) := by decide +kernel
theorem dX5_call_22 : decode cX5_call 22 = .ok (.aload_n 0, 1) := by decide +kernel
theorem dX5_call_23 : decode cX5_call 23 = .ok (.iload_n 3, 1) := by decide +kernel
theorem dX5_call_24 : decode cX5_call 24 = .ok (.invokevirtual 118, 3) := by decide +kernel
theorem dX5_call_27 : decode cX5_call 27 = .ok (.ifCond .eq 41, 3) := by decide +kernel
theorem dX5_call_30 : decode cX5_call 30 = .ok (.iload_n 2, 1) := by decide +kernel
theorem dX5_call_31 : decode cX5_call 31 = .ok (.iload_n 3, 1) := by decide +kernel
theorem dX5_call_32 : decode cX5_call 32 = .ok (.if_icmp .eq 36, 3) := by decide +kernel
theorem dX5_call_35 : decode cX5_call 35 = .ok (.iload 4, 2) := by decide +kernel
theorem dX5_call_37 : decode cX5_call 37 = .ok (.iconst 0, 1) := by decide +kernel
theorem dX5_call_38 : decode cX5_call 38 = .ok (.sipush 4319, 3) := by decide +kernel
theorem dX5_call_41 : decode cX5_call 41 = .ok (.invokestatic 108, 3) := by decide +kernel
theorem dX5_call_44 : decode cX5_call 44 = .ok (.ifCond .eq 24, 3) := by decide +kernel
theorem dX5_call_47 : decode cX5_call 47 = .ok (.iload 5, 2) := by decide +kernel
theorem dX5_call_49 : decode cX5_call 49 = .ok (.iconst 1, 1) := by decide +kernel
theorem dX5_call_50 : decode cX5_call 50 = .ok (.sipush 2000, 3) := by decide +kernel
theorem dX5_call_53 : decode cX5_call 53 = .ok (.invokestatic 108, 3) := by decide +kernel
theorem dX5_call_56 : decode cX5_call 56 = .ok (.ifCond .eq 12, 3) := by decide +kernel
theorem dX5_call_59 : decode cX5_call 59 = .ok (.aload_n 0, 1) := by decide +kernel
theorem dX5_call_60 : decode cX5_call 60 = .ok (.getfield 115, 3) := by decide +kernel
theorem dX5_call_63 : decode cX5_call 63 = .ok (.bipush 40, 2) := by decide +kernel
theorem dX5_call_65 : decode cX5_call 65 = .ok (.if_icmp .ne 5, 3) := by decide +kernel
theorem dX5_call_68 : decode cX5_call 68 = .ok (.iconst (-1), 1) := by decide +kernel
theorem dX5_call_69 : decode cX5_call 69 = .ok (.ireturn, 1) := by decide +kernel
theorem dX5_call_70 : decode cX5_call 70 = .ok (.aload_n 0, 1) := by decide +kernel
theorem dX5_call_71 : decode cX5_call 71 = .ok (.getfield 48, 3) := by decide +kernel
theorem dX5_call_74 : decode cX5_call 74 = .ok (.aload_n 0, 1) := by decide +kernel
theorem dX5_call_75 : decode cX5_call 75 = .ok (.getfield 115, 3) := by decide +kernel
theorem dX5_call_78 : decode cX5_call 78 = .ok (.iload_n 1, 1) := by decide +kernel
theorem dX5_call_79 : decode cX5_call 79 = .ok (.iastore, 1) := by decide +kernel
theorem dX5_call_80 : decode cX5_call 80 = .ok (.aload_n 0, 1) := by decide +kernel
theorem dX5_call_81 : decode cX5_call 81 = .ok (.getfield 51, 3) := by decide +kernel
theorem dX5_call_84 : decode cX5_call 84 = .ok (.aload_n 0, 1) := by decide +kernel
theorem dX5_call_85 : decode cX5_call 85 = .ok (.getfield 115, 3) := by decide +kernel
theorem dX5_call_88 : decode cX5_call 88 = .ok (.iload_n 2, 1) := by decide +kernel
theorem dX5_call_89 : decode cX5_call 89 = .ok (.iastore, 1) := by decide +kernel
theorem dX5_call_90 : decode cX5_call 90 = .ok (.aload_n 0, 1) := by decide +kernel
theorem dX5_call_91 : decode cX5_call 91 = .ok (.getfield 54, 3) := by decide +kernel
theorem dX5_call_94 : decode cX5_call 94 = .ok (.aload_n 0, 1) := by decide +kernel
theorem dX5_call_95 : decode cX5_call 95 = .ok (.getfield 115, 3) := by decide +kernel
theorem dX5_call_98 : decode cX5_call 98 = .ok (.iload_n 3, 1) := by decide +kernel
theorem dX5_call_99 : decode cX5_call 99 = .ok (.iastore, 1) := by decide +kernel
theorem dX5_call_100 : decode cX5_call 100 = .ok (.aload_n 0, 1) := by decide +kernel
theorem dX5_call_101 : decode cX5_call 101 = .ok (.getfield 57, 3) := by decide +kernel
theorem dX5_call_104 : decode cX5_call 104 = .ok (.aload_n 0, 1) := by decide +kernel
theorem dX5_call_105 : decode cX5_call 105 = .ok (.getfield 115, 3) := by decide +kernel
theorem dX5_call_108 : decode cX5_call 108 = .ok (.iload 4, 2) := by decide +kernel
theorem dX5_call_110 : decode cX5_call 110 = .ok (.iastore, 1) := by decide +kernel
theorem dX5_call_111 : decode cX5_call 111 = .ok (.aload_n 0, 1) := by decide +kernel
theorem dX5_call_112 : decode cX5_call 112 = .ok (.getfield 60, 3) := by decide +kernel
theorem dX5_call_115 : decode cX5_call 115 = .ok (.aload_n 0, 1) := by decide +kernel
theorem dX5_call_116 : decode cX5_call 116 = .ok (.getfield 115, 3) := by decide +kernel
theorem dX5_call_119 : decode cX5_call 119 = .ok (.iload 5, 2) := by decide +kernel
theorem dX5_call_121 : decode cX5_call 121 = .ok (.iastore, 1) := by decide +kernel
theorem dX5_call_122 : decode cX5_call 122 = .ok (.aload_n 0, 1) := by decide +kernel
theorem dX5_call_123 : decode cX5_call 123 = .ok (.dup, 1) := by decide +kernel
theorem dX5_call_124 : decode cX5_call 124 = .ok (.getfield 115, 3) := by decide +kernel
theorem dX5_call_127 : decode cX5_call 127 = .ok (.iconst 1, 1) := by decide +kernel
theorem dX5_call_128 : decode cX5_call 128 = .ok (.iadd, 1) := by decide +kernel
theorem dX5_call_129 : decode cX5_call 129 = .ok (.putfield 115, 3) := by decide +kernel
theorem dX5_call_132 : decode cX5_call 132 = .ok (.aload_n 0, 1) := by decide +kernel
theorem dX5_call_133 : decode cX5_call 133 = .ok (.getfield 115, 3) := by decide +kernel
theorem dX5_call_136 : decode cX5_call 136 = .ok (.iconst 1, 1) := by decide +kernel
theorem dX5_call_137 : decode cX5_call 137 = .ok (.isub, 1) := by decide +kernel
theorem dX5_call_138 : decode cX5_call 138 = .ok (.ireturn, 1) := by decide +kernel
theorem dX5_best_0 : decode cX5_best 0 = .ok (.aload_n 0, 1) := by decide +kernel
theorem dX5_best_1 : decode cX5_best 1 = .ok (.iconst 0, 1) := by decide +kernel
theorem dX5_best_2 : decode cX5_best 2 = .ok (.putfield 102, 3) := by decide +kernel
theorem dX5_best_5 : decode cX5_best 5 = .ok (.aload_n 0, 1) := by decide +kernel
theorem dX5_best_6 : decode cX5_best 6 = .ok (.iload_n 1, 1) := by decide +kernel
theorem dX5_best_7 : decode cX5_best 7 = .ok (.invokevirtual 157, 3) := by decide +kernel
theorem dX5_best_10 : decode cX5_best 10 = .ok (.ifCond .eq 43, 3) := by decide +kernel
theorem dX5_best_13 : decode cX5_best 13 = .ok (.aload_n 0, 1) := by decide +kernel
theorem dX5_best_14 : decode cX5_best 14 = .ok (.getfield 63, 3) := by decide +kernel
theorem dX5_best_17 : decode cX5_best 17 = .ok (.iload_n 1, 1) := by decide +kernel
theorem dX5_best_18 : decode cX5_best 18 = .ok (.iaload, 1) := by decide +kernel
theorem dX5_best_19 : decode cX5_best 19 = .ok (.ifCond .gt 34, 3) := by decide +kernel
theorem dX5_best_22 : decode cX5_best 22 = .ok (.aload_n 0, 1) := by decide +kernel
theorem dX5_best_23 : decode cX5_best 23 = .ok (.aload_n 0, 1) := by decide +kernel
theorem dX5_best_24 : decode cX5_best 24 = .ok (.getfield 48, 3) := by decide +kernel
theorem dX5_best_27 : decode cX5_best 27 = .ok (.iload_n 1, 1) := by decide +kernel
theorem dX5_best_28 : decode cX5_best 28 = .ok (.iaload, 1) := by decide +kernel
theorem dX5_best_29 : decode cX5_best 29 = .ok (.aload_n 0, 1) := by decide +kernel
theorem dX5_best_30 : decode cX5_best 30 = .ok (.getfield 51, 3) := by decide +kernel
theorem dX5_best_33 : decode cX5_best 33 = .ok (.iload_n 1, 1) := by decide +kernel
theorem dX5_best_34 : decode cX5_best 34 = .ok (.iaload, 1) := by decide +kernel
theorem dX5_best_35 : decode cX5_best 35 = .ok (.aload_n 0, 1) := by decide +kernel
theorem dX5_best_36 : decode cX5_best 36 = .ok (.getfield 57, 3) := by decide +kernel
theorem dX5_best_39 : decode cX5_best 39 = .ok (.iload_n 1, 1) := by decide +kernel
theorem dX5_best_40 : decode cX5_best 40 = .ok (.iaload, 1) := by decide +kernel
theorem dX5_best_41 : decode cX5_best 41 = .ok (.aload_n 0, 1) := by decide +kernel
theorem dX5_best_42 : decode cX5_best 42 = .ok (.getfield 54, 3) := by decide +kernel
theorem dX5_best_45 : decode cX5_best 45 = .ok (.iload_n 1, 1) := by decide +kernel
theorem dX5_best_46 : decode cX5_best 46 = .ok (.iaload, 1) := by decide +kernel
theorem dX5_best_47 : decode cX5_best 47 = .ok (.invokevirtual 160, 3) := by decide +kernel
theorem dX5_best_50 : decode cX5_best 50 = .ok (.ifCond .ne 5, 3) := by decide +kernel
theorem dX5_best_53 : decode cX5_best 53 = .ok (.iconst (-1), 1) := by decide +kernel
theorem dX5_best_54 : decode cX5_best 54 = .ok (.ireturn, 1) := by decide +kernel
theorem dX5_best_55 : decode cX5_best 55 = .ok (.aload_n 0, 1) := by decide +kernel
theorem dX5_best_56 : decode cX5_best 56 = .ok (.getfield 99, 3) := by decide +kernel
theorem dX5_best_59 : decode cX5_best 59 = .ok (.aload_n 0, 1) := by decide +kernel
theorem dX5_best_60 : decode cX5_best 60 = .ok (.getfield 142, 3) := by decide +kernel
theorem dX5_best_63 : decode cX5_best 63 = .ok (.iconst 1, 1) := by decide +kernel
theorem dX5_best_64 : decode cX5_best 64 = .ok (.isub, 1) := by decide +kernel
theorem dX5_best_65 : decode cX5_best 65 = .ok (.iaload, 1) := by decide +kernel
theorem dX5_best_66 : decode cX5_best 66 = .ok (.ireturn, 1) := by decide +kernel
theorem dX5_send_0 : decode cX5_send 0 = .ok (.aload_n 0, 1) := by decide +kernel
theorem dX5_send_1 : decode cX5_send 1 = .ok (.iconst 0, 1) := by decide +kernel
theorem dX5_send_2 : decode cX5_send 2 = .ok (.putfield 102, 3) := by decide +kernel
theorem dX5_send_5 : decode cX5_send 5 = .ok (.aload_n 0, 1) := by decide +kernel
theorem dX5_send_6 : decode cX5_send 6 = .ok (.iload_n 1, 1) := by decide +kernel
theorem dX5_send_7 : decode cX5_send 7 = .ok (.invokevirtual 157, 3) := by decide +kernel
theorem dX5_send_10 : decode cX5_send 10 = .ok (.ifCond .eq 43, 3) := by decide +kernel
theorem dX5_send_13 : decode cX5_send 13 = .ok (.aload_n 0, 1) := by decide +kernel
theorem dX5_send_14 : decode cX5_send 14 = .ok (.getfield 63, 3) := by decide +kernel
theorem dX5_send_17 : decode cX5_send 17 = .ok (.iload_n 1, 1) := by decide +kernel
theorem dX5_send_18 : decode cX5_send 18 = .ok (.iaload, 1) := by decide +kernel
theorem dX5_send_19 : decode cX5_send 19 = .ok (.ifCond .gt 34, 3) := by decide +kernel
theorem dX5_send_22 : decode cX5_send 22 = .ok (.aload_n 0, 1) := by decide +kernel
theorem dX5_send_23 : decode cX5_send 23 = .ok (.aload_n 0, 1) := by decide +kernel
theorem dX5_send_24 : decode cX5_send 24 = .ok (.getfield 48, 3) := by decide +kernel
theorem dX5_send_27 : decode cX5_send 27 = .ok (.iload_n 1, 1) := by decide +kernel
theorem dX5_send_28 : decode cX5_send 28 = .ok (.iaload, 1) := by decide +kernel
theorem dX5_send_29 : decode cX5_send 29 = .ok (.aload_n 0, 1) := by decide +kernel
theorem dX5_send_30 : decode cX5_send 30 = .ok (.getfield 51, 3) := by decide +kernel
theorem dX5_send_33 : decode cX5_send 33 = .ok (.iload_n 1, 1) := by decide +kernel
theorem dX5_send_34 : decode cX5_send 34 = .ok (.iaload, 1) := by decide +kernel
theorem dX5_send_35 : decode cX5_send 35 = .ok (.aload_n 0, 1) := by decide +kernel
theorem dX5_send_36 : decode cX5_send 36 = .ok (.getfield 57, 3) := by decide +kernel
theorem dX5_send_39 : decode cX5_send 39 = .ok (.iload_n 1, 1) := by decide +kernel
theorem dX5_send_40 : decode cX5_send 40 = .ok (.iaload, 1) := by decide +kernel
theorem dX5_send_41 : decode cX5_send 41 = .ok (.aload_n 0, 1) := by decide +kernel
theorem dX5_send_42 : decode cX5_send 42 = .ok (.getfield 54, 3) := by decide +kernel
theorem dX5_send_45 : decode cX5_send 45 = .ok (.iload_n 1, 1) := by decide +kernel
theorem dX5_send_46 : decode cX5_send 46 = .ok (.iaload, 1) := by decide +kernel
theorem dX5_send_47 : decode cX5_send 47 = .ok (.invokevirtual 160, 3) := by decide +kernel
theorem dX5_send_50 : decode cX5_send 50 = .ok (.ifCond .ne 5, 3) := by decide +kernel
theorem dX5_send_53 : decode cX5_send 53 = .ok (.iconst (-1), 1) := by decide +kernel
theorem dX5_send_54 : decode cX5_send 54 = .ok (.ireturn, 1) := by decide +kernel
theorem dX5_send_55 : decode cX5_send 55 = .ok (.aload_n 0, 1) := by decide +kernel
theorem dX5_send_56 : decode cX5_send 56 = .ok (.iload_n 1, 1) := by decide +kernel
theorem dX5_send_57 : decode cX5_send 57 = .ok (.aload_n 0, 1) := by decide +kernel
theorem dX5_send_58 : decode cX5_send 58 = .ok (.getfield 51, 3) := by decide +kernel
theorem dX5_send_61 : decode cX5_send 61 = .ok (.iload_n 1, 1) := by decide +kernel
theorem dX5_send_62 : decode cX5_send 62 = .ok (.iaload, 1) := by decide +kernel
theorem dX5_send_63 : decode cX5_send 63 = .ok (.invokevirtual 164, 3) := by decide +kernel
theorem dX5_send_66 : decode cX5_send 66 = .ok (.aload_n 0, 1) := by decide +kernel
theorem dX5_send_67 : decode cX5_send 67 = .ok (.getfield 63, 3) := by decide +kernel
theorem dX5_send_70 : decode cX5_send 70 = .ok (.iload_n 1, 1) := by decide +kernel
theorem dX5_send_71 : decode cX5_send 71 = .ok (.iconst 1, 1) := by decide +kernel
theorem dX5_send_72 : decode cX5_send 72 = .ok (.iastore, 1) := by decide +kernel
theorem dX5_send_73 : decode cX5_send 73 = .ok (.aload_n 0, 1) := by decide +kernel
theorem dX5_send_74 : decode cX5_send 74 = .ok (.iload_n 1, 1) := by decide +kernel
theorem dX5_send_75 : decode cX5_send 75 = .ok (.putfield 66, 3) := by decide +kernel
theorem dX5_send_78 : decode cX5_send 78 = .ok (.aload_n 0, 1) := by decide +kernel
theorem dX5_send_79 : decode cX5_send 79 = .ok (.iload_n 1, 1) := by decide +kernel
theorem dX5_send_80 : decode cX5_send 80 = .ok (.invokevirtual 130, 3) := by decide +kernel
theorem dX5_send_83 : decode cX5_send 83 = .ok (.ireturn, 1) := by decide +kernel
theorem dX5_told_0 : decode cX5_told 0 = .ok (.aload_n 0, 1) := by decide +kernel
theorem dX5_told_1 : decode cX5_told 1 = .ok (.iconst 0, 1) := by decide +kernel
theorem dX5_told_2 : decode cX5_told 2 = .ok (.putfield 102, 3) := by decide +kernel
theorem dX5_told_5 : decode cX5_told 5 = .ok (.aload_n 0, 1) := by decide +kernel
theorem dX5_told_6 : decode cX5_told 6 = .ok (.iload_n 1, 1) := by decide +kernel
theorem dX5_told_7 : decode cX5_told 7 = .ok (.invokevirtual 157, 3) := by decide +kernel
theorem dX5_told_10 : decode cX5_told 10 = .ok (.ifCond .ne 5, 3) := by decide +kernel
theorem dX5_told_13 : decode cX5_told 13 = .ok (.iconst (-1), 1) := by decide +kernel
theorem dX5_told_14 : decode cX5_told 14 = .ok (.ireturn, 1) := by decide +kernel
theorem dX5_told_15 : decode cX5_told 15 = .ok (.iload_n 2, 1) := by decide +kernel
theorem dX5_told_16 : decode cX5_told 16 = .ok (.tableswitch 117 0 7 #[48, 55, 62, 69, 76, 83, 90, 97], 48) := by decide +kernel
theorem dX5_told_64 : decode cX5_told 64 = .ok (.aload_n 0, 1) := by decide +kernel
theorem dX5_told_65 : decode cX5_told 65 = .ok (.getfield 48, 3) := by decide +kernel
theorem dX5_told_68 : decode cX5_told 68 = .ok (.iload_n 1, 1) := by decide +kernel
theorem dX5_told_69 : decode cX5_told 69 = .ok (.iaload, 1) := by decide +kernel
theorem dX5_told_70 : decode cX5_told 70 = .ok (.ireturn, 1) := by decide +kernel
theorem dX5_told_71 : decode cX5_told 71 = .ok (.aload_n 0, 1) := by decide +kernel
theorem dX5_told_72 : decode cX5_told 72 = .ok (.getfield 51, 3) := by decide +kernel
theorem dX5_told_75 : decode cX5_told 75 = .ok (.iload_n 1, 1) := by decide +kernel
theorem dX5_told_76 : decode cX5_told 76 = .ok (.iaload, 1) := by decide +kernel
theorem dX5_told_77 : decode cX5_told 77 = .ok (.ireturn, 1) := by decide +kernel
theorem dX5_told_78 : decode cX5_told 78 = .ok (.aload_n 0, 1) := by decide +kernel
theorem dX5_told_79 : decode cX5_told 79 = .ok (.getfield 54, 3) := by decide +kernel
theorem dX5_told_82 : decode cX5_told 82 = .ok (.iload_n 1, 1) := by decide +kernel
theorem dX5_told_83 : decode cX5_told 83 = .ok (.iaload, 1) := by decide +kernel
theorem dX5_told_84 : decode cX5_told 84 = .ok (.ireturn, 1) := by decide +kernel
theorem dX5_told_85 : decode cX5_told 85 = .ok (.aload_n 0, 1) := by decide +kernel
theorem dX5_told_86 : decode cX5_told 86 = .ok (.getfield 57, 3) := by decide +kernel
theorem dX5_told_89 : decode cX5_told 89 = .ok (.iload_n 1, 1) := by decide +kernel
theorem dX5_told_90 : decode cX5_told 90 = .ok (.iaload, 1) := by decide +kernel
theorem dX5_told_91 : decode cX5_told 91 = .ok (.ireturn, 1) := by decide +kernel
theorem dX5_told_92 : decode cX5_told 92 = .ok (.aload_n 0, 1) := by decide +kernel
theorem dX5_told_93 : decode cX5_told 93 = .ok (.getfield 60, 3) := by decide +kernel
theorem dX5_told_96 : decode cX5_told 96 = .ok (.iload_n 1, 1) := by decide +kernel
theorem dX5_told_97 : decode cX5_told 97 = .ok (.iaload, 1) := by decide +kernel
theorem dX5_told_98 : decode cX5_told 98 = .ok (.ireturn, 1) := by decide +kernel
