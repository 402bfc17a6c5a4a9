theorem dL_courses_245 : decode cL_courses 245 = .ok (.goto 6, 3) := by decide +kernel
theorem dL_courses_248 : decode cL_courses 248 = .ok (.aload_n 1, 1) := by decide +kernel
theorem dL_courses_249 : decode cL_courses 249 = .ok (.iconst 0, 1) := by decide +kernel
theorem dL_courses_250 : decode cL_courses 250 = .ok (.iaload, 1) := by decide +kernel
theorem dL_courses_251 : decode cL_courses 251 = .ok (.if_icmp .ne 7, 3) := by decide +kernel
theorem dL_courses_254 : decode cL_courses 254 = .ok (.iconst 1, 1) := by decide +kernel
theorem dL_courses_255 : decode cL_courses 255 = .ok (.goto 4, 3) := by decide +kernel
theorem dL_courses_258 : decode cL_courses 258 = .ok (.iconst 0, 1) := by decide +kernel
theorem dL_courses_259 : decode cL_courses 259 = .ok (.istore 14, 2) := by decide +kernel
theorem dL_courses_261 : decode cL_courses 261 = .ok (.aload_n 1, 1) := by decide +kernel
theorem dL_courses_262 : decode cL_courses 262 = .ok (.iconst 0, 1) := by decide +kernel
theorem dL_courses_263 : decode cL_courses 263 = .ok (.dup2, 1) := by decide +kernel
theorem dL_courses_264 : decode cL_courses 264 = .ok (.iaload, 1) := by decide +kernel
theorem dL_courses_265 : decode cL_courses 265 = .ok (.iload 13, 2) := by decide +kernel
theorem dL_courses_267 : decode cL_courses 267 = .ok (.ifCond .lt 7, 3) := by decide +kernel
theorem dL_courses_270 : decode cL_courses 270 = .ok (.iconst 1, 1) := by decide +kernel
theorem dL_courses_271 : decode cL_courses 271 = .ok (.goto 4, 3) := by decide +kernel
theorem dL_courses_274 : decode cL_courses 274 = .ok (.iconst 0, 1) := by decide +kernel
theorem dL_courses_275 : decode cL_courses 275 = .ok (.iadd, 1) := by decide +kernel
theorem dL_courses_276 : decode cL_courses 276 = .ok (.iastore, 1) := by decide +kernel
theorem dL_courses_277 : decode cL_courses 277 = .ok (.iload 14, 2) := by decide +kernel
theorem dL_courses_279 : decode cL_courses 279 = .ok (.ireturn, 1) := by decide +kernel
theorem dL_courses_280 : decode cL_courses 280 = .ok (.iload 4, 2) := by decide +kernel
theorem dL_courses_282 : decode cL_courses 282 = .ok (.ifCond .eq 18, 3) := by decide +kernel
theorem dL_courses_285 : decode cL_courses 285 = .ok (.iload_n 2, 1) := by decide +kernel
theorem dL_courses_286 : decode cL_courses 286 = .ok (.iconst 3, 1) := by decide +kernel
theorem dL_courses_287 : decode cL_courses 287 = .ok (.ishr, 1) := by decide +kernel
theorem dL_courses_288 : decode cL_courses 288 = .ok (.iload 7, 2) := by decide +kernel
theorem dL_courses_290 : decode cL_courses 290 = .ok (.iconst 2, 1) := by decide +kernel
theorem dL_courses_291 : decode cL_courses 291 = .ok (.iadd, 1) := by decide +kernel
theorem dL_courses_292 : decode cL_courses 292 = .ok (.invokestatic 100, 3) := by decide +kernel
theorem dL_courses_295 : decode cL_courses 295 = .ok (.iconst 1, 1) := by decide +kernel
theorem dL_courses_296 : decode cL_courses 296 = .ok (.isub, 1) := by decide +kernel
theorem dL_courses_297 : decode cL_courses 297 = .ok (.goto 20, 3) := by decide +kernel
theorem dL_courses_300 : decode cL_courses 300 = .ok (.iload_n 2, 1) := by decide +kernel
theorem dL_courses_301 : decode cL_courses 301 = .ok (.iconst 3, 1) := by decide +kernel
theorem dL_courses_302 : decode cL_courses 302 = .ok (.ishr, 1) := by decide +kernel
theorem dL_courses_303 : decode cL_courses 303 = .ok (.iload 7, 2) := by decide +kernel
theorem dL_courses_305 : decode cL_courses 305 = .ok (.ifCond .ne 7, 3) := by decide +kernel
theorem dL_courses_308 : decode cL_courses 308 = .ok (.iconst 1, 1) := by decide +kernel
theorem dL_courses_309 : decode cL_courses 309 = .ok (.goto 5, 3) := by decide +kernel
theorem dL_courses_312 : decode cL_courses 312 = .ok (.iload 7, 2) := by decide +kernel
theorem dL_courses_314 : decode cL_courses 314 = .ok (.invokestatic 100, 3) := by decide +kernel
theorem dL_courses_317 : decode cL_courses 317 = .ok (.istore 8, 2) := by decide +kernel
theorem dL_courses_319 : decode cL_courses 319 = .ok (.iload 4, 2) := by decide +kernel
theorem dL_courses_321 : decode cL_courses 321 = .ok (.ifCond .eq 17, 3) := by decide +kernel
theorem dL_courses_324 : decode cL_courses 324 = .ok (.iload_n 3, 1) := by decide +kernel
theorem dL_courses_325 : decode cL_courses 325 = .ok (.aload_n 1, 1) := by decide +kernel
theorem dL_courses_326 : decode cL_courses 326 = .ok (.iconst 0, 1) := by decide +kernel
theorem dL_courses_327 : decode cL_courses 327 = .ok (.iaload, 1) := by decide +kernel
theorem dL_courses_328 : decode cL_courses 328 = .ok (.iconst 2, 1) := by decide +kernel
theorem dL_courses_329 : decode cL_courses 329 = .ok (.iadd, 1) := by decide +kernel
theorem dL_courses_330 : decode cL_courses 330 = .ok (.invokestatic 100, 3) := by decide +kernel
theorem dL_courses_333 : decode cL_courses 333 = .ok (.iconst 1, 1) := by decide +kernel
theorem dL_courses_334 : decode cL_courses 334 = .ok (.isub, 1) := by decide +kernel
theorem dL_courses_335 : decode cL_courses 335 = .ok (.goto 20, 3) := by decide +kernel
theorem dL_courses_338 : decode cL_courses 338 = .ok (.iload_n 3, 1) := by decide +kernel
theorem dL_courses_339 : decode cL_courses 339 = .ok (.aload_n 1, 1) := by decide +kernel
theorem dL_courses_340 : decode cL_courses 340 = .ok (.iconst 0, 1) := by decide +kernel
theorem dL_courses_341 : decode cL_courses 341 = .ok (.iaload, 1) := by decide +kernel
theorem dL_courses_342 : decode cL_courses 342 = .ok (.ifCond .ne 7, 3) := by decide +kernel
theorem dL_courses_345 : decode cL_courses 345 = .ok (.iconst 1, 1) := by decide +kernel
theorem dL_courses_346 : decode cL_courses 346 = .ok (.goto 6, 3) := by decide +kernel
theorem dL_courses_349 : decode cL_courses 349 = .ok (.aload_n 1, 1) := by decide +kernel
theorem dL_courses_350 : decode cL_courses 350 = .ok (.iconst 0, 1) := by decide +kernel
theorem dL_courses_351 : decode cL_courses 351 = .ok (.iaload, 1) := by decide +kernel
theorem dL_courses_352 : decode cL_courses 352 = .ok (.invokestatic 100, 3) := by decide +kernel
theorem dL_courses_355 : decode cL_courses 355 = .ok (.istore 9, 2) := by decide +kernel
theorem dL_courses_357 : decode cL_courses 357 = .ok (.aload_n 0, 1) := by decide +kernel
theorem dL_courses_358 : decode cL_courses 358 = .ok (.iconst 3, 1) := by decide +kernel
theorem dL_courses_359 : decode cL_courses 359 = .ok (.iload 8, 2) := by decide +kernel
theorem dL_courses_361 : decode cL_courses 361 = .ok (.iload 9, 2) := by decide +kernel
theorem dL_courses_363 : decode cL_courses 363 = .ok (.iconst 0, 1) := by decide +kernel
theorem dL_courses_364 : decode cL_courses 364 = .ok (.iconst 0, 1) := by decide +kernel
theorem dL_courses_365 : decode cL_courses 365 = .ok (.invokestatic 97, 3) := by decide +kernel
theorem dL_courses_368 : decode cL_courses 368 = .ok (.istore 10, 2) := by decide +kernel
theorem dL_courses_370 : decode cL_courses 370 = .ok (.iload 10, 2) := by decide +kernel
theorem dL_courses_372 : decode cL_courses 372 = .ok (.ifCond .ge 56, 3) := by decide +kernel
theorem dL_courses_375 : decode cL_courses 375 = .ok (.aload_n 0, 1) := by decide +kernel
theorem dL_courses_376 : decode cL_courses 376 = .ok (.invokestatic 103, 3) := by decide +kernel
theorem dL_courses_379 : decode cL_courses 379 = .ok (.lload 5, 2) := by decide +kernel
theorem dL_courses_381 : decode cL_courses 381 = .ok (.lcmp, 1) := by decide +kernel
theorem dL_courses_382 : decode cL_courses 382 = .ok (.ifCond .ne 44, 3) := by decide +kernel
theorem dL_courses_385 : decode cL_courses 385 = .ok (.iload 10, 2) := by decide +kernel
theorem dL_courses_387 : decode cL_courses 387 = .ok (.iload 8, 2) := by decide +kernel
theorem dL_courses_389 : decode cL_courses 389 = .ok (.ifCond .lt 23, 3) := by decide +kernel
theorem dL_courses_392 : decode cL_courses 392 = .ok (.iload 8, 2) := by decide +kernel
theorem dL_courses_394 : decode cL_courses 394 = .ok (.iload 7, 2) := by decide +kernel
theorem dL_courses_396 : decode cL_courses 396 = .ok (.if_icmp .ge 16, 3) := by decide +kernel
theorem dL_courses_399 : decode cL_courses 399 = .ok (.iload 9, 2) := by decide +kernel
theorem dL_courses_401 : decode cL_courses 401 = .ok (.ifCond .lt 11, 3) := by decide +kernel
theorem dL_courses_404 : decode cL_courses 404 = .ok (.iload 9, 2) := by decide +kernel
theorem dL_courses_406 : decode cL_courses 406 = .ok (.aload_n 1, 1) := by decide +kernel
theorem dL_courses_407 : decode cL_courses 407 = .ok (.iconst 0, 1) := by decide +kernel
theorem dL_courses_408 : decode cL_courses 408 = .ok (.iaload, 1) := by decide +kernel
theorem dL_courses_409 : decode cL_courses 409 = .ok (.if_icmp .lt 8, 3) := by decide +kernel
theorem dL_courses_412 : decode cL_courses 412 = .ok (.bipush (-61), 2) := by decide +kernel
theorem dL_courses_414 : decode cL_courses 414 = .ok (.goto 5, 3) := by decide +kernel
theorem dL_courses_417 : decode cL_courses 417 = .ok (.bipush (-63), 2) := by decide +kernel
theorem dL_courses_419 : decode cL_courses 419 = .ok (.if_icmp .ne 7, 3) := by decide +kernel
theorem dL_courses_422 : decode cL_courses 422 = .ok (.iconst 1, 1) := by decide +kernel
theorem dL_courses_423 : decode cL_courses 423 = .ok (.goto 4, 3) := by decide +kernel
theorem dL_courses_426 : decode cL_courses 426 = .ok (.iconst 0, 1) := by decide +kernel
theorem dL_courses_427 : decode cL_courses 427 = .ok (.ireturn, 1) := by decide +kernel
theorem dL_courses_428 : decode cL_courses 428 = .ok (.iload 10, 2) := by decide +kernel
theorem dL_courses_430 : decode cL_courses 430 = .ok (.bipush 8, 2) := by decide +kernel
theorem dL_courses_432 : decode cL_courses 432 = .ok (.if_icmp .ge 23, 3) := by decide +kernel
theorem dL_courses_435 : decode cL_courses 435 = .ok (.aload_n 0, 1) := by decide +kernel
theorem dL_courses_436 : decode cL_courses 436 = .ok (.iconst 3, 1) := by decide +kernel
theorem dL_courses_437 : decode cL_courses 437 = .ok (.iload 8, 2) := by decide +kernel
theorem dL_courses_439 : decode cL_courses 439 = .ok (.iload 9, 2) := by decide +kernel
theorem dL_courses_441 : decode cL_courses 441 = .ok (.iconst 0, 1) := by decide +kernel
theorem dL_courses_442 : decode cL_courses 442 = .ok (.iconst 0, 1) := by decide +kernel
theorem dL_courses_443 : decode cL_courses 443 = .ok (.invokestatic 97, 3) := by decide +kernel
theorem dL_courses_446 : decode cL_courses 446 = .ok (.bipush (-63), 2) := by decide +kernel
theorem dL_courses_448 : decode cL_courses 448 = .ok (.if_icmp .ne 7, 3) := by decide +kernel
theorem dL_courses_451 : decode cL_courses 451 = .ok (.iconst 1, 1) := by decide +kernel
theorem dL_courses_452 : decode cL_courses 452 = .ok (.goto 4, 3) := by decide +kernel
theorem dL_courses_455 : decode cL_courses 455 = .ok (.iconst 0, 1) := by decide +kernel
theorem dL_courses_456 : decode cL_courses 456 = .ok (.ireturn, 1) := by decide +kernel
theorem dL_passes_0 : decode cL_passes 0 = .ok (.aload_n 0, 1) := by decide +kernel
theorem dL_passes_1 : decode cL_passes 1 = .ok (.invokevirtual 83, 3) := by decide +kernel
theorem dL_passes_4 : decode cL_passes 4 = .ok (.istore_n 2, 1) := by decide +kernel
theorem dL_passes_5 : decode cL_passes 5 = .ok (.iload_n 2, 1) := by decide +kernel
theorem dL_passes_6 : decode cL_passes 6 = .ok (.bipush 55, 2) := by decide +kernel
theorem dL_passes_8 : decode cL_passes 8 = .ok (.if_icmp .le 25, 3) := by decide +kernel
theorem dL_passes_11 : decode cL_passes 11 = .ok (.aload_n 0, 1) := by decide +kernel
theorem dL_passes_12 : decode cL_passes 12 = .ok (.bipush 7, 2) := by decide +kernel
theorem dL_passes_14 : decode cL_passes 14 = .ok (.bipush 61, 2) := by decide +kernel
theorem dL_passes_16 : decode cL_passes 16 = .ok (.iconst 0, 1) := by decide +kernel
theorem dL_passes_17 : decode cL_passes 17 = .ok (.iconst 0, 1) := by decide +kernel
theorem dL_passes_18 : decode cL_passes 18 = .ok (.iconst 0, 1) := by decide +kernel
theorem dL_passes_19 : decode cL_passes 19 = .ok (.invokestatic 97, 3) := by decide +kernel
theorem dL_passes_22 : decode cL_passes 22 = .ok (.bipush (-62), 2) := by decide +kernel
theorem dL_passes_24 : decode cL_passes 24 = .ok (.if_icmp .ne 7, 3) := by decide +kernel
theorem dL_passes_27 : decode cL_passes 27 = .ok (.iconst 1, 1) := by decide +kernel
theorem dL_passes_28 : decode cL_passes 28 = .ok (.goto 4, 3) := by decide +kernel
theorem dL_passes_31 : decode cL_passes 31 = .ok (.iconst 0, 1) := by decide +kernel
theorem dL_passes_32 : decode cL_passes 32 = .ok (.ireturn, 1) := by decide +kernel
theorem dL_passes_33 : decode cL_passes 33 = .ok (.aload_n 0, 1) := by decide +kernel
theorem dL_passes_34 : decode cL_passes 34 = .ok (.invokevirtual 77, 3) := by decide +kernel
theorem dL_passes_37 : decode cL_passes 37 = .ok (.istore_n 3, 1) := by decide +kernel
theorem dL_passes_38 : decode cL_passes 38 = .ok (.iconst 0, 1) := by decide +kernel
theorem dL_passes_39 : decode cL_passes 39 = .ok (.istore 4, 2) := by decide +kernel
theorem dL_passes_41 : decode cL_passes 41 = .ok (.iconst 0, 1) := by decide +kernel
theorem dL_passes_42 : decode cL_passes 42 = .ok (.istore 5, 2) := by decide +kernel
theorem dL_passes_44 : decode cL_passes 44 = .ok (.iconst 0, 1) := by decide +kernel
theorem dL_passes_45 : decode cL_passes 45 = .ok (.istore 6, 2) := by decide +kernel
theorem dL_passes_47 : decode cL_passes 47 = .ok (.iconst 0, 1) := by decide +kernel
theorem dL_passes_48 : decode cL_passes 48 = .ok (.istore 7, 2) := by decide +kernel
theorem dL_passes_50 : decode cL_passes 50 = .ok (.iload 7, 2) := by decide +kernel
theorem dL_passes_52 : decode cL_passes 52 = .ok (.iload_n 3, 1) := by decide +kernel
theorem dL_passes_53 : decode cL_passes 53 = .ok (.if_icmp .ge 51, 3) := by decide +kernel
theorem dL_passes_56 : decode cL_passes 56 = .ok (.iload 4, 2) := by decide +kernel
theorem dL_passes_58 : decode cL_passes 58 = .ok (.aload_n 0, 1) := by decide +kernel
theorem dL_passes_59 : decode cL_passes 59 = .ok (.iload 7, 2) := by decide +kernel
theorem dL_passes_61 : decode cL_passes 61 = .ok (.invokevirtual 74, 3) := by decide +kernel
theorem dL_passes_64 : decode cL_passes 64 = .ok (.iadd, 1) := by decide +kernel
theorem dL_passes_65 : decode cL_passes 65 = .ok (.istore 4, 2) := by decide +kernel
theorem dL_passes_67 : decode cL_passes 67 = .ok (.iload 5, 2) := by decide +kernel
theorem dL_passes_69 : decode cL_passes 69 = .ok (.aload_n 0, 1) := by decide +kernel
theorem dL_passes_70 : decode cL_passes 70 = .ok (.iload 7, 2) := by decide +kernel
theorem dL_passes_72 : decode cL_passes 72 = .ok (.invokevirtual 57, 3) := by decide +kernel
theorem dL_passes_75 : decode cL_passes 75 = .ok (.iadd, 1) := by decide +kernel
theorem dL_passes_76 : decode cL_passes 76 = .ok (.istore 5, 2) := by decide +kernel
theorem dL_passes_78 : decode cL_passes 78 = .ok (.iload 6, 2) := by decide +kernel
theorem dL_passes_80 : decode cL_passes 80 = .ok (.aload_n 0, 1) := by decide +kernel
theorem dL_passes_81 : decode cL_passes 81 = .ok (.iload 7, 2) := by decide +kernel
theorem dL_passes_83 : decode cL_passes 83 = .ok (.iload_n 2, 1) := by decide +kernel
theorem dL_passes_84 : decode cL_passes 84 = .ok (.invokevirtual 41, 3) := by decide +kernel
theorem dL_passes_87 : decode cL_passes 87 = .ok (.ifCond .le 7, 3) := by decide +kernel
theorem dL_passes_90 : decode cL_passes 90 = .ok (.iconst 1, 1) := by decide +kernel
theorem dL_passes_91 : decode cL_passes 91 = .ok (.goto 4, 3) := by decide +kernel
theorem dL_passes_94 : decode cL_passes 94 = .ok (.iconst 0, 1) := by decide +kernel
theorem dL_passes_95 : decode cL_passes 95 = .ok (.iadd, 1) := by decide +kernel
theorem dL_passes_96 : decode cL_passes 96 = .ok (.istore 6, 2) := by decide +kernel
theorem dL_passes_98 : decode cL_passes 98 = .ok (.iinc 7 1, 3) := by decide +kernel
theorem dL_passes_101 : decode cL_passes 101 = .ok (.goto (-51), 3) := by decide +kernel
theorem dL_passes_104 : decode cL_passes 104 = .ok (.aload_n 0, 1) := by decide +kernel
theorem dL_passes_105 : decode cL_passes 105 = .ok (.iconst 1, 1) := by decide +kernel
theorem dL_passes_106 : decode cL_passes 106 = .ok (.invokevirtual 48, 3) := by decide +kernel
theorem dL_passes_109 : decode cL_passes 109 = .ok (.istore 7, 2) := by decide +kernel
theorem dL_passes_111 : decode cL_passes 111 = .ok (.iconst 0, 1) := by decide +kernel
theorem dL_passes_112 : decode cL_passes 112 = .ok (.istore 8, 2) := by decide +kernel
theorem dL_passes_114 : decode cL_passes 114 = .ok (.iconst 0, 1) := by decide +kernel
theorem dL_passes_115 : decode cL_passes 115 = .ok (.istore 9, 2) := by decide +kernel
theorem dL_passes_117 : decode cL_passes 117 = .ok (.iconst 0, 1) := by decide +kernel
theorem dL_passes_118 : decode cL_passes 118 = .ok (.istore 10, 2) := by decide +kernel
theorem dL_passes_120 : decode cL_passes 120 = .ok (.iconst 0, 1) := by decide +kernel
theorem dL_passes_121 : decode cL_passes 121 = .ok (.istore 11, 2) := by decide +kernel
theorem dL_passes_123 : decode cL_passes 123 = .ok (.iload 11, 2) := by decide +kernel
theorem dL_passes_125 : decode cL_passes 125 = .ok (.iload_n 3, 1) := by decide +kernel
theorem dL_passes_126 : decode cL_passes 126 = .ok (.if_icmp .ge 55, 3) := by decide +kernel
theorem dL_passes_129 : decode cL_passes 129 = .ok (.iload 8, 2) := by decide +kernel
theorem dL_passes_131 : decode cL_passes 131 = .ok (.aload_n 0, 1) := by decide +kernel
theorem dL_passes_132 : decode cL_passes 132 = .ok (.iload 11, 2) := by decide +kernel
theorem dL_passes_134 : decode cL_passes 134 = .ok (.invokevirtual 74, 3) := by decide +kernel
theorem dL_passes_137 : decode cL_passes 137 = .ok (.iadd, 1) := by decide +kernel
theorem dL_passes_138 : decode cL_passes 138 = .ok (.istore 8, 2) := by decide +kernel
theorem dL_passes_140 : decode cL_passes 140 = .ok (.iload 5, 2) := by decide +kernel
theorem dL_passes_142 : decode cL_passes 142 = .ok (.aload_n 0, 1) := by decide +kernel
theorem dL_passes_143 : decode cL_passes 143 = .ok (.iload 11, 2) := by decide +kernel
theorem dL_passes_145 : decode cL_passes 145 = .ok (.invokevirtual 57, 3) := by decide +kernel
theorem dL_passes_148 : decode cL_passes 148 = .ok (.isub, 1) := by decide +kernel
theorem dL_passes_149 : decode cL_passes 149 = .ok (.istore 5, 2) := by decide +kernel
theorem dL_passes_151 : decode cL_passes 151 = .ok (.iload 9, 2) := by decide +kernel
theorem dL_passes_153 : decode cL_passes 153 = .ok (.aload_n 0, 1) := by decide +kernel
theorem dL_passes_154 : decode cL_passes 154 = .ok (.iload 11, 2) := by decide +kernel
theorem dL_passes_156 : decode cL_passes 156 = .ok (.iload_n 2, 1) := by decide +kernel
theorem dL_passes_157 : decode cL_passes 157 = .ok (.invokevirtual 51, 3) := by decide +kernel
theorem dL_passes_160 : decode cL_passes 160 = .ok (.iadd, 1) := by decide +kernel
theorem dL_passes_161 : decode cL_passes 161 = .ok (.istore 9, 2) := by decide +kernel
theorem dL_passes_163 : decode cL_passes 163 = .ok (.iload 10, 2) := by decide +kernel
theorem dL_passes_165 : decode cL_passes 165 = .ok (.aload_n 0, 1) := by decide +kernel
theorem dL_passes_166 : decode cL_passes 166 = .ok (.iload 11, 2) := by decide +kernel
theorem dL_passes_168 : decode cL_passes 168 = .ok (.iload_n 2, 1) := by decide +kernel
theorem dL_passes_169 : decode cL_passes 169 = .ok (.invokevirtual 54, 3) := by decide +kernel
theorem dL_passes_172 : decode cL_passes 172 = .ok (.iadd, 1) := by decide +kernel
theorem dL_passes_173 : decode cL_passes 173 = .ok (.istore 10, 2) := by decide +kernel
theorem dL_passes_175 : decode cL_passes 175 = .ok (.iinc 11 1, 3) := by decide +kernel
theorem dL_passes_178 : decode cL_passes 178 = .ok (.goto (-55), 3) := by decide +kernel
theorem dL_passes_181 : decode cL_passes 181 = .ok (.aload_n 0, 1) := by decide +kernel
theorem dL_passes_182 : decode cL_passes 182 = .ok (.invokevirtual 83, 3) := by decide +kernel
theorem dL_passes_185 : decode cL_passes 185 = .ok (.iload_n 2, 1) := by decide +kernel
theorem dL_passes_186 : decode cL_passes 186 = .ok (.iconst 1, 1) := by decide +kernel
theorem dL_passes_187 : decode cL_passes 187 = .ok (.iadd, 1) := by decide +kernel
theorem dL_passes_188 : decode cL_passes 188 = .ok (.if_icmp .ne 45, 3) := by decide +kernel
theorem dL_passes_191 : decode cL_passes 191 = .ok (.iload 7, 2) := by decide +kernel
theorem dL_passes_193 : decode cL_passes 193 = .ok (.iload 10, 2) := by decide +kernel
theorem dL_passes_195 : decode cL_passes 195 = .ok (.if_icmp .ne 38, 3) := by decide +kernel
theorem dL_passes_198 : decode cL_passes 198 = .ok (.iload 8, 2) := by decide +kernel
theorem dL_passes_200 : decode cL_passes 200 = .ok (.iload 4, 2) := by decide +kernel
theorem dL_passes_202 : decode cL_passes 202 = .ok (.iload 9, 2) := by decide +kernel
theorem dL_passes_204 : decode cL_passes 204 = .ok (.iadd, 1) := by decide +kernel
theorem dL_passes_205 : decode cL_passes 205 = .ok (.iload 10, 2) := by decide +kernel
theorem dL_passes_207 : decode cL_passes 207 = .ok (.iadd, 1) := by decide +kernel
theorem dL_passes_208 : decode cL_passes 208 = .ok (.if_icmp .ne 25, 3) := by decide +kernel
theorem dL_passes_211 : decode cL_passes 211 = .ok (.iload 5, 2) := by decide +kernel
theorem dL_passes_213 : decode cL_passes 213 = .ok (.iload 6, 2) := by decide +kernel
theorem dL_passes_215 : decode cL_passes 215 = .ok (.iadd, 1) := by decide +kernel
theorem dL_passes_216 : decode cL_passes 216 = .ok (.ifCond .ne 17, 3) := by decide +kernel
theorem dL_passes_219 : decode cL_passes 219 = .ok (.iload 6, 2) := by decide +kernel
theorem dL_passes_221 : decode cL_passes 221 = .ok (.ifCond .gt 8, 3) := by decide +kernel
theorem dL_passes_224 : decode cL_passes 224 = .ok (.iload 7, 2) := by decide +kernel
theorem dL_passes_226 : decode cL_passes 226 = .ok (.ifCond .ne 7, 3) := by decide +kernel
theorem dL_passes_229 : decode cL_passes 229 = .ok (.iconst 1, 1) := by decide +kernel
theorem dL_passes_230 : decode cL_passes 230 = .ok (.goto 4, 3) := by decide +kernel
theorem dL_passes_233 : decode cL_passes 233 = .ok (.iconst 0, 1) := by decide +kernel
theorem dL_passes_234 : decode cL_passes 234 = .ok (.ireturn, 1) := by decide +kernel
theorem dL_checks_0 : decode cL_checks 0 = .ok (.aload_n 0, 1) := by decide +kernel
theorem dL_checks_1 : decode cL_checks 1 = .ok (.invokevirtual 77, 3) := by decide +kernel
theorem dL_checks_4 : decode cL_checks 4 = .ok (.istore 4, 2) := by decide +kernel
theorem dL_checks_6 : decode cL_checks 6 = .ok (.aload_n 0, 1) := by decide +kernel
theorem dL_checks_7 : decode cL_checks 7 = .ok (.invokevirtual 83, 3) := by decide +kernel
theorem dL_checks_10 : decode cL_checks 10 = .ok (.istore 5, 2) := by decide +kernel
theorem dL_checks_12 : decode cL_checks 12 = .ok (.iload_n 3, 1) := by decide +kernel
theorem dL_checks_13 : decode cL_checks 13 = .ok (.ifCond .eq 16, 3) := by decide +kernel
theorem dL_checks_16 : decode cL_checks 16 = .ok (.iload_n 2, 1) := by decide +kernel
theorem dL_checks_17 : decode cL_checks 17 = .ok (.iload 5, 2) := by decide +kernel
theorem dL_checks_19 : decode cL_checks 19 = .ok (.iconst 3, 1) := by decide +kernel
theorem dL_checks_20 : decode cL_checks 20 = .ok (.iadd, 1) := by decide +kernel
theorem dL_checks_21 : decode cL_checks 21 = .ok (.invokestatic 100, 3) := by decide +kernel
theorem dL_checks_24 : decode cL_checks 24 = .ok (.iconst 1, 1) := by decide +kernel
theorem dL_checks_25 : decode cL_checks 25 = .ok (.isub, 1) := by decide +kernel
theorem dL_checks_26 : decode cL_checks 26 = .ok (.goto 18, 3) := by decide +kernel
theorem dL_checks_29 : decode cL_checks 29 = .ok (.iload 5, 2) := by decide +kernel
theorem dL_checks_31 : decode cL_checks 31 = .ok (.ifCond .ne 7, 3) := by decide +kernel
theorem dL_checks_34 : decode cL_checks 34 = .ok (.iconst 0, 1) := by decide +kernel
theorem dL_checks_35 : decode cL_checks 35 = .ok (.goto 9, 3) := by decide +kernel
theorem dL_checks_38 : decode cL_checks 38 = .ok (.iload_n 2, 1) := by decide +kernel
theorem dL_checks_39 : decode cL_checks 39 = .ok (.iload 5, 2) := by decide +kernel
theorem dL_checks_41 : decode cL_checks 41 = .ok (.invokestatic 100, 3) := by decide +kernel
theorem dL_checks_44 : decode cL_checks 44 = .ok (.istore 6, 2) := by decide +kernel
theorem dL_checks_46 : decode cL_checks 46 = .ok (.iload 6, 2) := by decide +kernel
theorem dL_checks_48 : decode cL_checks 48 = .ok (.ifCond .lt 14, 3) := by decide +kernel
theorem dL_checks_51 : decode cL_checks 51 = .ok (.iload 6, 2) := by decide +kernel
theorem dL_checks_53 : decode cL_checks 53 = .ok (.iload 5, 2) := by decide +kernel
theorem dL_checks_55 : decode cL_checks 55 = .ok (.if_icmp .ge 7, 3) := by decide +kernel
theorem dL_checks_58 : decode cL_checks 58 = .ok (.iconst 1, 1) := by decide +kernel
theorem dL_checks_59 : decode cL_checks 59 = .ok (.goto 4, 3) := by decide +kernel
theorem dL_checks_62 : decode cL_checks 62 = .ok (.iconst 0, 1) := by decide +kernel
theorem dL_checks_63 : decode cL_checks 63 = .ok (.istore 7, 2) := by decide +kernel
theorem dL_checks_65 : decode cL_checks 65 = .ok (.iload_n 3, 1) := by decide +kernel
theorem dL_checks_66 : decode cL_checks 66 = .ok (.ifCond .eq 16, 3) := by decide +kernel
theorem dL_checks_69 : decode cL_checks 69 = .ok (.iload_n 1, 1) := by decide +kernel
theorem dL_checks_70 : decode cL_checks 70 = .ok (.iload 4, 2) := by decide +kernel
theorem dL_checks_72 : decode cL_checks 72 = .ok (.iconst 2, 1) := by decide +kernel
theorem dL_checks_73 : decode cL_checks 73 = .ok (.iadd, 1) := by decide +kernel
theorem dL_checks_74 : decode cL_checks 74 = .ok (.invokestatic 100, 3) := by decide +kernel
theorem dL_checks_77 : decode cL_checks 77 = .ok (.iconst 1, 1) := by decide +kernel
theorem dL_checks_78 : decode cL_checks 78 = .ok (.isub, 1) := by decide +kernel
theorem dL_checks_79 : decode cL_checks 79 = .ok (.goto 18, 3) := by decide +kernel
theorem dL_checks_82 : decode cL_checks 82 = .ok (.iload_n 1, 1) := by decide +kernel
theorem dL_checks_83 : decode cL_checks 83 = .ok (.iload 4, 2) := by decide +kernel
theorem dL_checks_85 : decode cL_checks 85 = .ok (.ifCond .ne 7, 3) := by decide +kernel
theorem dL_checks_88 : decode cL_checks 88 = .ok (.iconst 1, 1) := by decide +kernel
theorem dL_checks_89 : decode cL_checks 89 = .ok (.goto 5, 3) := by decide +kernel
theorem dL_checks_92 : decode cL_checks 92 = .ok (.iload 4, 2) := by decide +kernel
theorem dL_checks_94 : decode cL_checks 94 = .ok (.invokestatic 100, 3) := by decide +kernel
theorem dL_checks_97 : decode cL_checks 97 = .ok (.istore 8, 2) := by decide +kernel
theorem dL_checks_99 : decode cL_checks 99 = .ok (.iload 8, 2) := by decide +kernel
theorem dL_checks_101 : decode cL_checks 101 = .ok (.ifCond .lt 10, 3) := by decide +kernel
theorem dL_checks_104 : decode cL_checks 104 = .ok (.iload 8, 2) := by decide +kernel
theorem dL_checks_106 : decode cL_checks 106 = .ok (.iload 4, 2) := by decide +kernel
theorem dL_checks_108 : decode cL_checks 108 = .ok (.if_icmp .lt 7, 3) := by decide +kernel
theorem dL_checks_111 : decode cL_checks 111 = .ok (.iconst 1, 1) := by decide +kernel
theorem dL_checks_112 : decode cL_checks 112 = .ok (.goto 4, 3) := by decide +kernel
theorem dL_checks_115 : decode cL_checks 115 = .ok (.iconst 0, 1) := by decide +kernel
theorem dL_checks_116 : decode cL_checks 116 = .ok (.istore 9, 2) := by decide +kernel
theorem dL_checks_118 : decode cL_checks 118 = .ok (.iload_n 3, 1) := by decide +kernel
theorem dL_checks_119 : decode cL_checks 119 = .ok (.ifCond .eq 17, 3) := by decide +kernel
theorem dL_checks_122 : decode cL_checks 122 = .ok (.iload_n 2, 1) := by decide +kernel
theorem dL_checks_123 : decode cL_checks 123 = .ok (.bipush 6, 2) := by decide +kernel
theorem dL_checks_125 : decode cL_checks 125 = .ok (.ishr, 1) := by decide +kernel
theorem dL_checks_126 : decode cL_checks 126 = .ok (.bipush 84, 2) := by decide +kernel
theorem dL_checks_128 : decode cL_checks 128 = .ok (.invokestatic 100, 3) := by decide +kernel
theorem dL_checks_131 : decode cL_checks 131 = .ok (.iconst 2, 1) := by decide +kernel
theorem dL_checks_132 : decode cL_checks 132 = .ok (.isub, 1) := by decide +kernel
theorem dL_checks_133 : decode cL_checks 133 = .ok (.goto 12, 3) := by decide +kernel
theorem dL_checks_136 : decode cL_checks 136 = .ok (.iload_n 2, 1) := by decide +kernel
theorem dL_checks_137 : decode cL_checks 137 = .ok (.bipush 6, 2) := by decide +kernel
theorem dL_checks_139 : decode cL_checks 139 = .ok (.ishr, 1) := by decide +kernel
theorem dL_checks_140 : decode cL_checks 140 = .ok (.bipush 70, 2) := by decide +kernel
theorem dL_checks_142 : decode cL_checks 142 = .ok (.invokestatic 100, 3) := by decide +kernel
theorem dL_checks_145 : decode cL_checks 145 = .ok (.istore 10, 2) := by decide +kernel
theorem dL_checks_147 : decode cL_checks 147 = .ok (.aload_n 0, 1) := by decide +kernel
theorem dL_checks_148 : decode cL_checks 148 = .ok (.invokestatic 103, 3) := by decide +kernel
theorem dL_checks_151 : decode cL_checks 151 = .ok (.lstore 11, 2) := by decide +kernel
theorem dL_checks_153 : decode cL_checks 153 = .ok (.aload_n 0, 1) := by decide +kernel
theorem dL_checks_154 : decode cL_checks 154 = .ok (.bipush 11, 2) := by decide +kernel
theorem dL_checks_156 : decode cL_checks 156 = .ok (.iload 8, 2) := by decide +kernel
theorem dL_checks_158 : decode cL_checks 158 = .ok (.iload 6, 2) := by decide +kernel
theorem dL_checks_160 : decode cL_checks 160 = .ok (.iload 10, 2) := by decide +kernel
theorem dL_checks_162 : decode cL_checks 162 = .ok (.iconst 0, 1) := by decide +kernel
theorem dL_checks_163 : decode cL_checks 163 = .ok (.invokestatic 97, 3) := by decide +kernel
theorem dL_checks_166 : decode cL_checks 166 = .ok (.istore 13, 2) := by decide +kernel
theorem dL_checks_168 : decode cL_checks 168 = .ok (.iload_n 1, 1) := by decide +kernel
theorem dL_checks_169 : decode cL_checks 169 = .ok (.iconst 4, 1) := by decide +kernel
theorem dL_checks_170 : decode cL_checks 170 = .ok (.ishr, 1) := by decide +kernel
theorem dL_checks_171 : decode cL_checks 171 = .ok (.iconst 2, 1) := by decide +kernel
theorem dL_checks_172 : decode cL_checks 172 = .ok (.invokestatic 100, 3) := by decide +kernel
theorem dL_checks_175 : decode cL_checks 175 = .ok (.ifCond .ne 18, 3) := by decide +kernel
theorem dL_checks_178 : decode cL_checks 178 = .ok (.aload_n 0, 1) := by decide +kernel
theorem dL_checks_179 : decode cL_checks 179 = .ok (.bipush 12, 2) := by decide +kernel
theorem dL_checks_181 : decode cL_checks 181 = .ok (.iload 8, 2) := by decide +kernel
theorem dL_checks_183 : decode cL_checks 183 = .ok (.iload 6, 2) := by decide +kernel
theorem dL_checks_185 : decode cL_checks 185 = .ok (.iconst 0, 1) := by decide +kernel
theorem dL_checks_186 : decode cL_checks 186 = .ok (.iconst 0, 1) := by decide +kernel
theorem dL_checks_187 : decode cL_checks 187 = .ok (.invokestatic 97, 3) := by decide +kernel
theorem dL_checks_190 : decode cL_checks 190 = .ok (.goto 4, 3) := by decide +kernel
theorem dL_checks_193 : decode cL_checks 193 = .ok (.iconst 0, 1) := by decide +kernel
theorem dL_checks_194 : decode cL_checks 194 = .ok (.istore 14, 2) := by decide +kernel
theorem dL_checks_196 : decode cL_checks 196 = .ok (.aload_n 0, 1) := by decide +kernel
theorem dL_checks_197 : decode cL_checks 197 = .ok (.invokestatic 103, 3) := by decide +kernel
theorem dL_checks_200 : decode cL_checks 200 = .ok (.lload 11, 2) := by decide +kernel
theorem dL_checks_202 : decode cL_checks 202 = .ok (.lcmp, 1) := by decide +kernel
theorem dL_checks_203 : decode cL_checks 203 = .ok (.ifCond .ne 97, 3) := by decide +kernel
theorem dL_checks_206 : decode cL_checks 206 = .ok (.iload 9, 2) := by decide +kernel
theorem dL_checks_208 : decode cL_checks 208 = .ok (.ifCond .eq 27, 3) := by decide +kernel
theorem dL_checks_211 : decode cL_checks 211 = .ok (.iload 13, 2) := by decide +kernel
theorem dL_checks_213 : decode cL_checks 213 = .ok (.bipush (-61), 2) := by decide +kernel
theorem dL_checks_215 : decode cL_checks 215 = .ok (.if_icmp .ne 85, 3) := by decide +kernel
theorem dL_checks_218 : decode cL_checks 218 = .ok (.iload 14, 2) := by decide +kernel
theorem dL_checks_220 : decode cL_checks 220 = .ok (.bipush (-62), 2) := by decide +kernel
theorem dL_checks_222 : decode cL_checks 222 = .ok (.if_icmp .eq 78, 3) := by decide +kernel
theorem dL_checks_225 : decode cL_checks 225 = .ok (.iload 14, 2) := by decide +kernel
theorem dL_checks_227 : decode cL_checks 227 = .ok (.bipush (-63), 2) := by decide +kernel
theorem dL_checks_229 : decode cL_checks 229 = .ok (.if_icmp .eq 71, 3) := by decide +kernel
theorem dL_checks_232 : decode cL_checks 232 = .ok (.goto 42, 3) := by decide +kernel
theorem dL_checks_235 : decode cL_checks 235 = .ok (.iload 7, 2) := by decide +kernel
theorem dL_checks_237 : decode cL_checks 237 = .ok (.ifCond .eq 15, 3) := by decide +kernel
theorem dL_checks_240 : decode cL_checks 240 = .ok (.iload 10, 2) := by decide +kernel
theorem dL_checks_242 : decode cL_checks 242 = .ok (.ifCond .lt 10, 3) := by decide +kernel
theorem dL_checks_245 : decode cL_checks 245 = .ok (.iload 10, 2) := by decide +kernel
theorem dL_checks_247 : decode cL_checks 247 = .ok (.bipush 80, 2) := by decide +kernel
theorem dL_checks_249 : decode cL_checks 249 = .ok (.if_icmp .le 13, 3) := by decide +kernel
theorem dL_checks_252 : decode cL_checks 252 = .ok (.iload 13, 2) := by decide +kernel
theorem dL_checks_254 : decode cL_checks 254 = .ok (.bipush (-62), 2) := by decide +kernel
theorem dL_checks_256 : decode cL_checks 256 = .ok (.if_icmp .ne 44, 3) := by decide +kernel
theorem dL_checks_259 : decode cL_checks 259 = .ok (.goto 15, 3) := by decide +kernel
theorem dL_checks_262 : decode cL_checks 262 = .ok (.iload 13, 2) := by decide +kernel
theorem dL_checks_264 : decode cL_checks 264 = .ok (.ifCond .eq 10, 3) := by decide +kernel
theorem dL_checks_267 : decode cL_checks 267 = .ok (.iload 13, 2) := by decide +kernel
theorem dL_checks_269 : decode cL_checks 269 = .ok (.bipush (-63), 2) := by decide +kernel
theorem dL_checks_271 : decode cL_checks 271 = .ok (.if_icmp .ne 29, 3) := by decide +kernel
theorem dL_checks_274 : decode cL_checks 274 = .ok (.iload 9, 2) := by decide +kernel
theorem dL_checks_276 : decode cL_checks 276 = .ok (.ifCond .ne 20, 3) := by decide +kernel
theorem dL_checks_279 : decode cL_checks 279 = .ok (.iload 7, 2) := by decide +kernel
theorem dL_checks_281 : decode cL_checks 281 = .ok (.ifCond .ne 15, 3) := by decide +kernel
theorem dL_checks_284 : decode cL_checks 284 = .ok (.iload 14, 2) := by decide +kernel
theorem dL_checks_286 : decode cL_checks 286 = .ok (.ifCond .eq 10, 3) := by decide +kernel
theorem dL_checks_289 : decode cL_checks 289 = .ok (.iload 14, 2) := by decide +kernel
theorem dL_checks_291 : decode cL_checks 291 = .ok (.bipush (-62), 2) := by decide +kernel
theorem dL_checks_293 : decode cL_checks 293 = .ok (.if_icmp .ne 7, 3) := by decide +kernel
theorem dL_checks_296 : decode cL_checks 296 = .ok (.iconst 1, 1) := by decide +kernel
theorem dL_checks_297 : decode cL_checks 297 = .ok (.goto 4, 3) := by decide +kernel
theorem dL_checks_300 : decode cL_checks 300 = .ok (.iconst 0, 1) := by decide +kernel
theorem dL_checks_301 : decode cL_checks 301 = .ok (.istore 15, 2) := by decide +kernel
theorem dL_checks_303 : decode cL_checks 303 = .ok (.iload 15, 2) := by decide +kernel
theorem dL_checks_305 : decode cL_checks 305 = .ok (.ifCond .eq 14, 3) := by decide +kernel
theorem dL_checks_308 : decode cL_checks 308 = .ok (.iload_n 1, 1) := by decide +kernel
theorem dL_checks_309 : decode cL_checks 309 = .ok (.bipush 6, 2) := by decide +kernel
theorem dL_checks_311 : decode cL_checks 311 = .ok (.ishr, 1) := by decide +kernel
theorem dL_checks_312 : decode cL_checks 312 = .ok (.iconst 3, 1) := by decide +kernel
theorem dL_checks_313 : decode cL_checks 313 = .ok (.invokestatic 100, 3) := by decide +kernel
theorem dL_checks_316 : decode cL_checks 316 = .ok (.ifCond .le 6, 3) := by decide +kernel
theorem dL_checks_319 : decode cL_checks 319 = .ok (.iload 15, 2) := by decide +kernel
theorem dL_checks_321 : decode cL_checks 321 = .ok (.ireturn, 1) := by decide +kernel
theorem dL_checks_322 : decode cL_checks 322 = .ok (.aload_n 0, 1) := by decide +kernel
theorem dL_checks_323 : decode cL_checks 323 = .ok (.invokevirtual 88, 3) := by decide +kernel
theorem dL_checks_326 : decode cL_checks 326 = .ok (.istore 16, 2) := by decide +kernel
theorem dL_checks_328 : decode cL_checks 328 = .ok (.iload 9, 2) := by decide +kernel
theorem dL_checks_330 : decode cL_checks 330 = .ok (.ifCond .eq 7, 3) := by decide +kernel
theorem dL_checks_333 : decode cL_checks 333 = .ok (.iconst 0, 1) := by decide +kernel
theorem dL_checks_334 : decode cL_checks 334 = .ok (.goto 9, 3) := by decide +kernel
theorem dL_checks_337 : decode cL_checks 337 = .ok (.aload_n 0, 1) := by decide +kernel
theorem dL_checks_338 : decode cL_checks 338 = .ok (.iload 8, 2) := by decide +kernel
theorem dL_checks_340 : decode cL_checks 340 = .ok (.invokevirtual 71, 3) := by decide +kernel
theorem dL_checks_343 : decode cL_checks 343 = .ok (.istore 17, 2) := by decide +kernel
theorem dL_checks_345 : decode cL_checks 345 = .ok (.aload_n 0, 1) := by decide +kernel
theorem dL_checks_346 : decode cL_checks 346 = .ok (.bipush 13, 2) := by decide +kernel
theorem dL_checks_348 : decode cL_checks 348 = .ok (.iload 6, 2) := by decide +kernel
theorem dL_checks_350 : decode cL_checks 350 = .ok (.iconst 0, 1) := by decide +kernel
theorem dL_checks_351 : decode cL_checks 351 = .ok (.iconst 0, 1) := by decide +kernel
theorem dL_checks_352 : decode cL_checks 352 = .ok (.iconst 0, 1) := by decide +kernel
theorem dL_checks_353 : decode cL_checks 353 = .ok (.invokestatic 97, 3) := by decide +kernel
theorem dL_checks_356 : decode cL_checks 356 = .ok (.istore 18, 2) := by decide +kernel
theorem dL_checks_358 : decode cL_checks 358 = .ok (.iload 18, 2) := by decide +kernel
theorem dL_checks_360 : decode cL_checks 360 = .ok (.ifCond .ge 36, 3) := by decide +kernel
theorem dL_checks_363 : decode cL_checks 363 = .ok (.aload_n 0, 1) := by decide +kernel
theorem dL_checks_364 : decode cL_checks 364 = .ok (.invokestatic 103, 3) := by decide +kernel
theorem dL_checks_367 : decode cL_checks 367 = .ok (.lload 11, 2) := by decide +kernel
theorem dL_checks_369 : decode cL_checks 369 = .ok (.lcmp, 1) := by decide +kernel
theorem dL_checks_370 : decode cL_checks 370 = .ok (.ifCond .ne 24, 3) := by decide +kernel
theorem dL_checks_373 : decode cL_checks 373 = .ok (.iload 18, 2) := by decide +kernel
theorem dL_checks_375 : decode cL_checks 375 = .ok (.iload 7, 2) := by decide +kernel
theorem dL_checks_377 : decode cL_checks 377 = .ok (.ifCond .eq 8, 3) := by decide +kernel
theorem dL_checks_380 : decode cL_checks 380 = .ok (.bipush (-63), 2) := by decide +kernel
theorem dL_checks_382 : decode cL_checks 382 = .ok (.goto 5, 3) := by decide +kernel
theorem dL_checks_385 : decode cL_checks 385 = .ok (.bipush (-62), 2) := by decide +kernel
theorem dL_checks_387 : decode cL_checks 387 = .ok (.if_icmp .ne 7, 3) := by decide +kernel
theorem dL_checks_390 : decode cL_checks 390 = .ok (.iconst 1, 1) := by decide +kernel
theorem dL_checks_391 : decode cL_checks 391 = .ok (.goto 4, 3) := by decide +kernel
theorem dL_checks_394 : decode cL_checks 394 = .ok (.iconst 0, 1) := by decide +kernel
theorem dL_checks_395 : decode cL_checks 395 = .ok (.ireturn, 1) := by decide +kernel
theorem dL_checks_396 : decode cL_checks 396 = .ok (.iload 7, 2) := by decide +kernel
theorem dL_checks_398 : decode cL_checks 398 = .ok (.ifCond .eq 63, 3) := by decide +kernel
theorem dL_checks_401 : decode cL_checks 401 = .ok (.iload 18, 2) := by decide +kernel
theorem dL_checks_403 : decode cL_checks 403 = .ok (.iload 4, 2) := by decide +kernel
theorem dL_checks_405 : decode cL_checks 405 = .ok (.if_icmp .gt 56, 3) := by decide +kernel
theorem dL_checks_408 : decode cL_checks 408 = .ok (.aload_n 0, 1) := by decide +kernel
theorem dL_checks_409 : decode cL_checks 409 = .ok (.bipush 13, 2) := by decide +kernel
theorem dL_checks_411 : decode cL_checks 411 = .ok (.iload 6, 2) := by decide +kernel
theorem dL_checks_413 : decode cL_checks 413 = .ok (.iconst 0, 1) := by decide +kernel
theorem dL_checks_414 : decode cL_checks 414 = .ok (.iconst 0, 1) := by decide +kernel
theorem dL_checks_415 : decode cL_checks 415 = .ok (.iconst 0, 1) := by decide +kernel
theorem dL_checks_416 : decode cL_checks 416 = .ok (.invokestatic 97, 3) := by decide +kernel
theorem dL_checks_419 : decode cL_checks 419 = .ok (.bipush (-63), 2) := by decide +kernel
theorem dL_checks_421 : decode cL_checks 421 = .ok (.if_icmp .ne 40, 3) := by decide +kernel
theorem dL_checks_424 : decode cL_checks 424 = .ok (.aload_n 0, 1) := by decide +kernel
theorem dL_checks_425 : decode cL_checks 425 = .ok (.invokevirtual 88, 3) := by decide +kernel
theorem dL_checks_428 : decode cL_checks 428 = .ok (.iload 16, 2) := by decide +kernel
theorem dL_checks_430 : decode cL_checks 430 = .ok (.if_icmp .lt 31, 3) := by decide +kernel
theorem dL_checks_433 : decode cL_checks 433 = .ok (.iload 18, 2) := by decide +kernel
theorem dL_checks_435 : decode cL_checks 435 = .ok (.ifCond .gt 22, 3) := by decide +kernel
theorem dL_checks_438 : decode cL_checks 438 = .ok (.aload_n 0, 1) := by decide +kernel
theorem dL_checks_439 : decode cL_checks 439 = .ok (.invokestatic 103, 3) := by decide +kernel
theorem dL_checks_442 : decode cL_checks 442 = .ok (.lload 11, 2) := by decide +kernel
theorem dL_checks_444 : decode cL_checks 444 = .ok (.lcmp, 1) := by decide +kernel
theorem dL_checks_445 : decode cL_checks 445 = .ok (.ifCond .ne 16, 3) := by decide +kernel
theorem dL_checks_448 : decode cL_checks 448 = .ok (.aload_n 0, 1) := by decide +kernel
theorem dL_checks_449 : decode cL_checks 449 = .ok (.invokevirtual 88, 3) := by decide +kernel
theorem dL_checks_452 : decode cL_checks 452 = .ok (.iload 16, 2) := by decide +kernel
theorem dL_checks_454 : decode cL_checks 454 = .ok (.if_icmp .ne 7, 3) := by decide +kernel
theorem dL_checks_457 : decode cL_checks 457 = .ok (.iconst 1, 1) := by decide +kernel
theorem dL_checks_458 : decode cL_checks 458 = .ok (.goto 4, 3) := by decide +kernel
theorem dL_checks_461 : decode cL_checks 461 = .ok (.iconst 0, 1) := by decide +kernel
theorem dL_checks_462 : decode cL_checks 462 = .ok (.istore 15, 2) := by decide +kernel
theorem dL_checks_464 : decode cL_checks 464 = .ok (.iload 9, 2) := by decide +kernel
theorem dL_checks_466 : decode cL_checks 466 = .ok (.ifCond .ne 127, 3) := by decide +kernel
theorem dL_checks_469 : decode cL_checks 469 = .ok (.aload_n 0, 1) := by decide +kernel
theorem dL_checks_470 : decode cL_checks 470 = .ok (.iload 8, 2) := by decide +kernel
theorem dL_checks_472 : decode cL_checks 472 = .ok (.iload 6, 2) := by decide +kernel
theorem dL_checks_474 : decode cL_checks 474 = .ok (.invokevirtual 54, 3) := by decide +kernel
theorem dL_checks_477 : decode cL_checks 477 = .ok (.istore 19, 2) := by decide +kernel
theorem dL_checks_479 : decode cL_checks 479 = .ok (.aload_n 0, 1) := by decide +kernel
theorem dL_checks_480 : decode cL_checks 480 = .ok (.iload 8, 2) := by decide +kernel
theorem dL_checks_482 : decode cL_checks 482 = .ok (.invokevirtual 71, 3) := by decide +kernel
theorem dL_checks_485 : decode cL_checks 485 = .ok (.iload 17, 2) := by decide +kernel
theorem dL_checks_487 : decode cL_checks 487 = .ok (.isub, 1) := by decide +kernel
theorem dL_checks_488 : decode cL_checks 488 = .ok (.istore 20, 2) := by decide +kernel
theorem dL_checks_490 : decode cL_checks 490 = .ok (.iload 13, 2) := by decide +kernel
theorem dL_checks_492 : decode cL_checks 492 = .ok (.ifCond .ne 28, 3) := by decide +kernel
theorem dL_checks_495 : decode cL_checks 495 = .ok (.iload 10, 2) := by decide +kernel
theorem dL_checks_497 : decode cL_checks 497 = .ok (.bipush 42, 2) := by decide +kernel
theorem dL_checks_499 : decode cL_checks 499 = .ok (.aload_n 0, 1) := by decide +kernel
theorem dL_checks_500 : decode cL_checks 500 = .ok (.iload 8, 2) := by decide +kernel
theorem dL_checks_502 : decode cL_checks 502 = .ok (.iload 6, 2) := by decide +kernel
theorem dL_checks_504 : decode cL_checks 504 = .ok (.invokevirtual 41, 3) := by decide +kernel
theorem dL_checks_507 : decode cL_checks 507 = .ok (.isub, 1) := by decide +kernel
theorem dL_checks_508 : decode cL_checks 508 = .ok (.if_icmp .le 12, 3) := by decide +kernel
theorem dL_checks_511 : decode cL_checks 511 = .ok (.iload 19, 2) := by decide +kernel
theorem dL_checks_513 : decode cL_checks 513 = .ok (.ifCond .le 7, 3) := by decide +kernel
theorem dL_checks_516 : decode cL_checks 516 = .ok (.iconst 1, 1) := by decide +kernel
theorem dL_checks_517 : decode cL_checks 517 = .ok (.goto 4, 3) := by decide +kernel
theorem dL_checks_520 : decode cL_checks 520 = .ok (.iconst 0, 1) := by decide +kernel
theorem dL_checks_521 : decode cL_checks 521 = .ok (.istore 21, 2) := by decide +kernel
theorem dL_checks_523 : decode cL_checks 523 = .ok (.iload 15, 2) := by decide +kernel
theorem dL_checks_525 : decode cL_checks 525 = .ok (.ifCond .eq 65, 3) := by decide +kernel
theorem dL_checks_528 : decode cL_checks 528 = .ok (.iload 20, 2) := by decide +kernel
theorem dL_checks_530 : decode cL_checks 530 = .ok (.ifCond .eq 12, 3) := by decide +kernel
theorem dL_checks_533 : decode cL_checks 533 = .ok (.iload 20, 2) := by decide +kernel
theorem dL_checks_535 : decode cL_checks 535 = .ok (.iload 19, 2) := by decide +kernel
theorem dL_checks_537 : decode cL_checks 537 = .ok (.iconst 2, 1) := by decide +kernel
theorem dL_checks_538 : decode cL_checks 538 = .ok (.idiv, 1) := by decide +kernel
theorem dL_checks_539 : decode cL_checks 539 = .ok (.if_icmp .ne 51, 3) := by decide +kernel
theorem dL_checks_542 : decode cL_checks 542 = .ok (.iload 21, 2) := by decide +kernel
theorem dL_checks_544 : decode cL_checks 544 = .ok (.ifCond .eq 8, 3) := by decide +kernel
theorem dL_checks_547 : decode cL_checks 547 = .ok (.iload 18, 2) := by decide +kernel
theorem dL_checks_549 : decode cL_checks 549 = .ok (.ifCond .le 41, 3) := by decide +kernel
theorem dL_checks_552 : decode cL_checks 552 = .ok (.aload_n 0, 1) := by decide +kernel
theorem dL_checks_553 : decode cL_checks 553 = .ok (.bipush 11, 2) := by decide +kernel
theorem dL_checks_555 : decode cL_checks 555 = .ok (.iload 8, 2) := by decide +kernel
theorem dL_checks_557 : decode cL_checks 557 = .ok (.iload 6, 2) := by decide +kernel
theorem dL_checks_559 : decode cL_checks 559 = .ok (.iconst 5, 1) := by decide +kernel
theorem dL_checks_560 : decode cL_checks 560 = .ok (.iconst 0, 1) := by decide +kernel
theorem dL_checks_561 : decode cL_checks 561 = .ok (.invokestatic 97, 3) := by decide +kernel
theorem dL_checks_564 : decode cL_checks 564 = .ok (.bipush (-63), 2) := by decide +kernel
theorem dL_checks_566 : decode cL_checks 566 = .ok (.if_icmp .ne 24, 3) := by decide +kernel
theorem dL_checks_569 : decode cL_checks 569 = .ok (.aload_n 0, 1) := by decide +kernel
theorem dL_checks_570 : decode cL_checks 570 = .ok (.bipush 12, 2) := by decide +kernel
theorem dL_checks_572 : decode cL_checks 572 = .ok (.iload 8, 2) := by decide +kernel
theorem dL_checks_574 : decode cL_checks 574 = .ok (.iload 6, 2) := by decide +kernel
theorem dL_checks_576 : decode cL_checks 576 = .ok (.iconst 0, 1) := by decide +kernel
theorem dL_checks_577 : decode cL_checks 577 = .ok (.iconst 0, 1) := by decide +kernel
theorem dL_checks_578 : decode cL_checks 578 = .ok (.invokestatic 97, 3) := by decide +kernel
theorem dL_checks_581 : decode cL_checks 581 = .ok (.bipush (-63), 2) := by decide +kernel
theorem dL_checks_583 : decode cL_checks 583 = .ok (.if_icmp .ne 7, 3) := by decide +kernel
theorem dL_checks_586 : decode cL_checks 586 = .ok (.iconst 1, 1) := by decide +kernel
theorem dL_checks_587 : decode cL_checks 587 = .ok (.goto 4, 3) := by decide +kernel
theorem dL_checks_590 : decode cL_checks 590 = .ok (.iconst 0, 1) := by decide +kernel
theorem dL_checks_591 : decode cL_checks 591 = .ok (.istore 15, 2) := by decide +kernel
theorem dL_checks_593 : decode cL_checks 593 = .ok (.iload 15, 2) := by decide +kernel
theorem dL_checks_595 : decode cL_checks 595 = .ok (.ireturn, 1) := by decide +kernel
theorem dL_law_0 : decode cL_law 0 = .ok (.new 21, 3) := by decide +kernel
theorem dL_law_3 : decode cL_law 3 = .ok (.dup, 1) := by decide +kernel
theorem dL_law_4 : decode cL_law 4 = .ok (.invokespecial 107, 3) := by decide +kernel
theorem dL_law_7 : decode cL_law 7 = .ok (.astore_n 1, 1) := by decide +kernel
theorem dL_law_8 : decode cL_law 8 = .ok (.iconst 1, 1) := by decide +kernel
theorem dL_law_9 : decode cL_law 9 = .ok (.newarray .int, 2) := by decide +kernel
theorem dL_law_11 : decode cL_law 11 = .ok (.astore_n 2, 1) := by decide +kernel
theorem dL_law_12 : decode cL_law 12 = .ok (.aload_n 1, 1) := by decide +kernel
theorem dL_law_13 : decode cL_law 13 = .ok (.invokestatic 103, 3) := by decide +kernel
theorem dL_law_16 : decode cL_law 16 = .ok (.aload_n 1, 1) := by decide +kernel
theorem dL_law_17 : decode cL_law 17 = .ok (.invokestatic 103, 3) := by decide +kernel
theorem dL_law_20 : decode cL_law 20 = .ok (.lcmp, 1) := by decide +kernel
theorem dL_law_21 : decode cL_law 21 = .ok (.ifCond .ne 25, 3) := by decide +kernel
theorem dL_law_24 : decode cL_law 24 = .ok (.aload_n 1, 1) := by decide +kernel
theorem dL_law_25 : decode cL_law 25 = .ok (.invokestatic 108, 3) := by decide +kernel
theorem dL_law_28 : decode cL_law 28 = .ok (.ifCond .eq 18, 3) := by decide +kernel
theorem dL_law_31 : decode cL_law 31 = .ok (.aload_n 1, 1) := by decide +kernel
theorem dL_law_32 : decode cL_law 32 = .ok (.bipush 50, 2) := by decide +kernel
theorem dL_law_34 : decode cL_law 34 = .ok (.invokevirtual 37, 3) := by decide +kernel
theorem dL_law_37 : decode cL_law 37 = .ok (.bipush 50, 2) := by decide +kernel
theorem dL_law_39 : decode cL_law 39 = .ok (.if_icmp .ne 7, 3) := by decide +kernel
theorem dL_law_42 : decode cL_law 42 = .ok (.iconst 1, 1) := by decide +kernel
theorem dL_law_43 : decode cL_law 43 = .ok (.goto 4, 3) := by decide +kernel
theorem dL_law_46 : decode cL_law 46 = .ok (.iconst 0, 1) := by decide +kernel
theorem dL_law_47 : decode cL_law 47 = .ok (.istore_n 3, 1) := by decide +kernel
theorem dL_law_48 : decode cL_law 48 = .ok (.bipush 50, 2) := by decide +kernel
theorem dL_law_50 : decode cL_law 50 = .ok (.istore 4, 2) := by decide +kernel
theorem dL_law_52 : decode cL_law 52 = .ok (.iconst 0, 1) := by decide +kernel
theorem dL_law_53 : decode cL_law 53 = .ok (.istore 5, 2) := by decide +kernel
theorem dL_law_55 : decode cL_law 55 = .ok (.iload 5, 2) := by decide +kernel
theorem dL_law_57 : decode cL_law 57 = .ok (.bipush 90, 2) := by decide +kernel
theorem dL_law_59 : decode cL_law 59 = .ok (.if_icmp .ge 380, 3) := by decide +kernel
theorem dL_law_62 : decode cL_law 62 = .ok (.iload_n 3, 1) := by decide +kernel
theorem dL_law_63 : decode cL_law 63 = .ok (.ifCond .eq 376, 3) := by decide +kernel
theorem dL_law_66 : decode cL_law 66 = .ok (.aload_n 0, 1) := by decide +kernel
theorem dL_law_67 : decode cL_law 67 = .ok (.iconst 2, 1) := by decide +kernel
theorem dL_law_68 : decode cL_law 68 = .ok (.iload 5, 2) := by decide +kernel
theorem dL_law_70 : decode cL_law 70 = .ok (.imul, 1) := by decide +kernel
theorem dL_law_71 : decode cL_law 71 = .ok (.invokestatic 112, 3) := by decide +kernel
theorem dL_law_74 : decode cL_law 74 = .ok (.istore 6, 2) := by decide +kernel
theorem dL_law_76 : decode cL_law 76 = .ok (.aload_n 0, 1) := by decide +kernel
theorem dL_law_77 : decode cL_law 77 = .ok (.iconst 2, 1) := by decide +kernel
theorem dL_law_78 : decode cL_law 78 = .ok (.iload 5, 2) := by decide +kernel
theorem dL_law_80 : decode cL_law 80 = .ok (.imul, 1) := by decide +kernel
theorem dL_law_81 : decode cL_law 81 = .ok (.iconst 1, 1) := by decide +kernel
theorem dL_law_82 : decode cL_law 82 = .ok (.iadd, 1) := by decide +kernel
theorem dL_law_83 : decode cL_law 83 = .ok (.invokestatic 112, 3) := by decide +kernel
theorem dL_law_86 : decode cL_law 86 = .ok (.istore 7, 2) := by decide +kernel
theorem dL_law_88 : decode cL_law 88 = .ok (.iload 6, 2) := by decide +kernel
theorem dL_law_90 : decode cL_law 90 = .ok (.bipush 9, 2) := by decide +kernel
theorem dL_law_92 : decode cL_law 92 = .ok (.ishr, 1) := by decide +kernel
theorem dL_law_93 : decode cL_law 93 = .ok (.bipush 10, 2) := by decide +kernel
theorem dL_law_95 : decode cL_law 95 = .ok (.invokestatic 100, 3) := by decide +kernel
theorem dL_law_98 : decode cL_law 98 = .ok (.ifCond .ne 7, 3) := by decide +kernel
theorem dL_law_101 : decode cL_law 101 = .ok (.iconst 1, 1) := by decide +kernel
theorem dL_law_102 : decode cL_law 102 = .ok (.goto 4, 3) := by decide +kernel
theorem dL_law_105 : decode cL_law 105 = .ok (.iconst 0, 1) := by decide +kernel
theorem dL_law_106 : decode cL_law 106 = .ok (.istore 8, 2) := by decide +kernel
theorem dL_law_108 : decode cL_law 108 = .ok (.iload 6, 2) := by decide +kernel
theorem dL_law_110 : decode cL_law 110 = .ok (.bipush 16, 2) := by decide +kernel
theorem dL_law_112 : decode cL_law 112 = .ok (.invokestatic 100, 3) := by decide +kernel
theorem dL_law_115 : decode cL_law 115 = .ok (.istore 9, 2) := by decide +kernel
theorem dL_law_117 : decode cL_law 117 = .ok (.aload_n 1, 1) := by decide +kernel
theorem dL_law_118 : decode cL_law 118 = .ok (.invokevirtual 77, 3) := by decide +kernel
theorem dL_law_121 : decode cL_law 121 = .ok (.iconst 2, 1) := by decide +kernel
theorem dL_law_122 : decode cL_law 122 = .ok (.if_icmp .lt 16, 3) := by decide +kernel
theorem dL_law_125 : decode cL_law 125 = .ok (.iload 9, 2) := by decide +kernel
theorem dL_law_127 : decode cL_law 127 = .ok (.ifCond .ne 132, 3) := by decide +kernel
theorem dL_law_130 : decode cL_law 130 = .ok (.aload_n 1, 1) := by decide +kernel
theorem dL_law_131 : decode cL_law 131 = .ok (.invokevirtual 77, 3) := by decide +kernel
theorem dL_law_134 : decode cL_law 134 = .ok (.iconst 4, 1) := by decide +kernel
theorem dL_law_135 : decode cL_law 135 = .ok (.if_icmp .ge 124, 3) := by decide +kernel
theorem dL_law_138 : decode cL_law 138 = .ok (.aload_n 1, 1) := by decide +kernel
theorem dL_law_139 : decode cL_law 139 = .ok (.invokevirtual 77, 3) := by decide +kernel
theorem dL_law_142 : decode cL_law 142 = .ok (.istore 10, 2) := by decide +kernel
theorem dL_law_144 : decode cL_law 144 = .ok (.aload_n 1, 1) := by decide +kernel
theorem dL_law_145 : decode cL_law 145 = .ok (.invokestatic 103, 3) := by decide +kernel
theorem dL_law_148 : decode cL_law 148 = .ok (.lstore 11, 2) := by decide +kernel
theorem dL_law_150 : decode cL_law 150 = .ok (.aload_n 1, 1) := by decide +kernel
theorem dL_law_151 : decode cL_law 151 = .ok (.iconst 0, 1) := by decide +kernel
theorem dL_law_152 : decode cL_law 152 = .ok (.iconst 0, 1) := by decide +kernel
theorem dL_law_153 : decode cL_law 153 = .ok (.iconst 0, 1) := by decide +kernel
theorem dL_law_154 : decode cL_law 154 = .ok (.iconst 0, 1) := by decide +kernel
theorem dL_law_155 : decode cL_law 155 = .ok (.iconst 0, 1) := by decide +kernel
theorem dL_law_156 : decode cL_law 156 = .ok (.invokestatic 97, 3) := by decide +kernel
theorem dL_law_159 : decode cL_law 159 = .ok (.bipush (-62), 2) := by decide +kernel
theorem dL_law_161 : decode cL_law 161 = .ok (.if_icmp .ne 93, 3) := by decide +kernel
theorem dL_law_164 : decode cL_law 164 = .ok (.aload_n 1, 1) := by decide +kernel
theorem dL_law_165 : decode cL_law 165 = .ok (.iconst 0, 1) := by decide +kernel
theorem dL_law_166 : decode cL_law 166 = .ok (.ldc 116, 2) := by decide +kernel
theorem dL_law_168 : decode cL_law 168 = .ok (.iconst 1, 1) := by decide +kernel
theorem dL_law_169 : decode cL_law 169 = .ok (.iconst 0, 1) := by decide +kernel
theorem dL_law_170 : decode cL_law 170 = .ok (.iconst 0, 1) := by decide +kernel
theorem dL_law_171 : decode cL_law 171 = .ok (.invokestatic 97, 3) := by decide +kernel
theorem dL_law_174 : decode cL_law 174 = .ok (.bipush (-62), 2) := by decide +kernel
theorem dL_law_176 : decode cL_law 176 = .ok (.if_icmp .ne 78, 3) := by decide +kernel
theorem dL_law_179 : decode cL_law 179 = .ok (.aload_n 1, 1) := by decide +kernel
theorem dL_law_180 : decode cL_law 180 = .ok (.invokestatic 103, 3) := by decide +kernel
theorem dL_law_183 : decode cL_law 183 = .ok (.lload 11, 2) := by decide +kernel
theorem dL_law_185 : decode cL_law 185 = .ok (.lcmp, 1) := by decide +kernel
theorem dL_law_186 : decode cL_law 186 = .ok (.ifCond .ne 68, 3) := by decide +kernel
theorem dL_law_189 : decode cL_law 189 = .ok (.aload_n 1, 1) := by decide +kernel
theorem dL_law_190 : decode cL_law 190 = .ok (.iconst 1, 1) := by decide +kernel
theorem dL_law_191 : decode cL_law 191 = .ok (.iload 7, 2) := by decide +kernel
theorem dL_law_193 : decode cL_law 193 = .ok (.ldc 117, 2) := by decide +kernel
theorem dL_law_195 : decode cL_law 195 = .ok (.invokestatic 100, 3) := by decide +kernel
theorem dL_law_198 : decode cL_law 198 = .ok (.iadd, 1) := by decide +kernel
theorem dL_law_199 : decode cL_law 199 = .ok (.iload 7, 2) := by decide +kernel
theorem dL_law_201 : decode cL_law 201 = .ok (.iconst 3, 1) := by decide +kernel
theorem dL_law_202 : decode cL_law 202 = .ok (.ishr, 1) := by decide +kernel
theorem dL_law_203 : decode cL_law 203 = .ok (.iconst 2, 1) := by decide +kernel
theorem dL_law_204 : decode cL_law 204 = .ok (.invokestatic 100, 3) := by decide +kernel
theorem dL_law_207 : decode cL_law 207 = .ok (.ifCond .ne 7, 3) := by decide +kernel
theorem dL_law_210 : decode cL_law 210 = .ok (.iconst 1, 1) := by decide +kernel
theorem dL_law_211 : decode cL_law 211 = .ok (.goto 4, 3) := by decide +kernel
theorem dL_law_214 : decode cL_law 214 = .ok (.iconst 0, 1) := by decide +kernel
theorem dL_law_215 : decode cL_law 215 = .ok (.invokevirtual 20, 3) := by decide +kernel
theorem dL_law_218 : decode cL_law 218 = .ok (.iload 10, 2) := by decide +kernel
theorem dL_law_220 : decode cL_law 220 = .ok (.if_icmp .ne 34, 3) := by decide +kernel
theorem dL_law_223 : decode cL_law 223 = .ok (.aload_n 1, 1) := by decide +kernel
theorem dL_law_224 : decode cL_law 224 = .ok (.iload 10, 2) := by decide +kernel
theorem dL_law_226 : decode cL_law 226 = .ok (.invokevirtual 74, 3) := by decide +kernel
theorem dL_law_229 : decode cL_law 229 = .ok (.ifCond .ne 25, 3) := by decide +kernel
theorem dL_law_232 : decode cL_law 232 = .ok (.aload_n 1, 1) := by decide +kernel
theorem dL_law_233 : decode cL_law 233 = .ok (.iload 10, 2) := by decide +kernel
theorem dL_law_235 : decode cL_law 235 = .ok (.invokevirtual 71, 3) := by decide +kernel
theorem dL_law_238 : decode cL_law 238 = .ok (.ifCond .ne 16, 3) := by decide +kernel
theorem dL_law_241 : decode cL_law 241 = .ok (.aload_n 1, 1) := by decide +kernel
theorem dL_law_242 : decode cL_law 242 = .ok (.iload 10, 2) := by decide +kernel
theorem dL_law_244 : decode cL_law 244 = .ok (.invokevirtual 57, 3) := by decide +kernel
theorem dL_law_247 : decode cL_law 247 = .ok (.ifCond .ne 7, 3) := by decide +kernel
theorem dL_law_250 : decode cL_law 250 = .ok (.iconst 1, 1) := by decide +kernel
theorem dL_law_251 : decode cL_law 251 = .ok (.goto 4, 3) := by decide +kernel
theorem dL_law_254 : decode cL_law 254 = .ok (.iconst 0, 1) := by decide +kernel
theorem dL_law_255 : decode cL_law 255 = .ok (.istore_n 3, 1) := by decide +kernel
theorem dL_law_256 : decode cL_law 256 = .ok (.goto 133, 3) := by decide +kernel
theorem dL_law_259 : decode cL_law 259 = .ok (.iload 9, 2) := by decide +kernel
theorem dL_law_261 : decode cL_law 261 = .ok (.iconst 5, 1) := by decide +kernel
theorem dL_law_262 : decode cL_law 262 = .ok (.if_icmp .ge 19, 3) := by decide +kernel
theorem dL_law_265 : decode cL_law 265 = .ok (.aload_n 1, 1) := by decide +kernel
theorem dL_law_266 : decode cL_law 266 = .ok (.iload 6, 2) := by decide +kernel
theorem dL_law_268 : decode cL_law 268 = .ok (.iconst 4, 1) := by decide +kernel
theorem dL_law_269 : decode cL_law 269 = .ok (.ishr, 1) := by decide +kernel
theorem dL_law_270 : decode cL_law 270 = .ok (.iload 7, 2) := by decide +kernel
theorem dL_law_272 : decode cL_law 272 = .ok (.iload 8, 2) := by decide +kernel
theorem dL_law_274 : decode cL_law 274 = .ok (.invokestatic 118, 3) := by decide +kernel
theorem dL_law_277 : decode cL_law 277 = .ok (.istore_n 3, 1) := by decide +kernel
theorem dL_law_278 : decode cL_law 278 = .ok (.goto 111, 3) := by decide +kernel
theorem dL_law_281 : decode cL_law 281 = .ok (.iload 9, 2) := by decide +kernel
theorem dL_law_283 : decode cL_law 283 = .ok (.bipush 7, 2) := by decide +kernel
theorem dL_law_285 : decode cL_law 285 = .ok (.if_icmp .ge 20, 3) := by decide +kernel
theorem dL_law_288 : decode cL_law 288 = .ok (.aload_n 1, 1) := by decide +kernel
theorem dL_law_289 : decode cL_law 289 = .ok (.aload_n 2, 1) := by decide +kernel
theorem dL_law_290 : decode cL_law 290 = .ok (.iload 6, 2) := by decide +kernel
theorem dL_law_292 : decode cL_law 292 = .ok (.iconst 4, 1) := by decide +kernel
theorem dL_law_293 : decode cL_law 293 = .ok (.ishr, 1) := by decide +kernel
theorem dL_law_294 : decode cL_law 294 = .ok (.iload 7, 2) := by decide +kernel
theorem dL_law_296 : decode cL_law 296 = .ok (.iload 8, 2) := by decide +kernel
theorem dL_law_298 : decode cL_law 298 = .ok (.invokestatic 122, 3) := by decide +kernel
theorem dL_law_301 : decode cL_law 301 = .ok (.istore_n 3, 1) := by decide +kernel
theorem dL_law_302 : decode cL_law 302 = .ok (.goto 87, 3) := by decide +kernel
theorem dL_law_305 : decode cL_law 305 = .ok (.iload 9, 2) := by decide +kernel
theorem dL_law_307 : decode cL_law 307 = .ok (.bipush 11, 2) := by decide +kernel
theorem dL_law_309 : decode cL_law 309 = .ok (.if_icmp .ge 13, 3) := by decide +kernel
theorem dL_law_312 : decode cL_law 312 = .ok (.aload_n 1, 1) := by decide +kernel
theorem dL_law_313 : decode cL_law 313 = .ok (.iload 7, 2) := by decide +kernel
theorem dL_law_315 : decode cL_law 315 = .ok (.invokestatic 126, 3) := by decide +kernel
theorem dL_law_318 : decode cL_law 318 = .ok (.istore_n 3, 1) := by decide +kernel
theorem dL_law_319 : decode cL_law 319 = .ok (.goto 70, 3) := by decide +kernel
theorem dL_law_322 : decode cL_law 322 = .ok (.iload 9, 2) := by decide +kernel
theorem dL_law_324 : decode cL_law 324 = .ok (.bipush 15, 2) := by decide +kernel
theorem dL_law_326 : decode cL_law 326 = .ok (.if_icmp .ge 19, 3) := by decide +kernel
theorem dL_law_329 : decode cL_law 329 = .ok (.aload_n 1, 1) := by decide +kernel
theorem dL_law_330 : decode cL_law 330 = .ok (.iload 6, 2) := by decide +kernel
theorem dL_law_332 : decode cL_law 332 = .ok (.iconst 4, 1) := by decide +kernel
theorem dL_law_333 : decode cL_law 333 = .ok (.ishr, 1) := by decide +kernel
theorem dL_law_334 : decode cL_law 334 = .ok (.iload 7, 2) := by decide +kernel
theorem dL_law_336 : decode cL_law 336 = .ok (.iload 8, 2) := by decide +kernel
theorem dL_law_338 : decode cL_law 338 = .ok (.invokestatic 130, 3) := by decide +kernel
theorem dL_law_341 : decode cL_law 341 = .ok (.istore_n 3, 1) := by decide +kernel
theorem dL_law_342 : decode cL_law 342 = .ok (.goto 47, 3) := by decide +kernel
theorem dL_law_345 : decode cL_law 345 = .ok (.iload 7, 2) := by decide +kernel
theorem dL_law_347 : decode cL_law 347 = .ok (.bipush 101, 2) := by decide +kernel
theorem dL_law_349 : decode cL_law 349 = .ok (.invokestatic 100, 3) := by decide +kernel
theorem dL_law_352 : decode cL_law 352 = .ok (.istore 10, 2) := by decide +kernel
theorem dL_law_354 : decode cL_law 354 = .ok (.aload_n 1, 1) := by decide +kernel
theorem dL_law_355 : decode cL_law 355 = .ok (.iload 10, 2) := by decide +kernel
theorem dL_law_357 : decode cL_law 357 = .ok (.invokevirtual 37, 3) := by decide +kernel
theorem dL_law_360 : decode cL_law 360 = .ok (.iload 4, 2) := by decide +kernel
theorem dL_law_362 : decode cL_law 362 = .ok (.if_icmp .ne 21, 3) := by decide +kernel
theorem dL_law_365 : decode cL_law 365 = .ok (.aload_n 1, 1) := by decide +kernel
theorem dL_law_366 : decode cL_law 366 = .ok (.iconst 4, 1) := by decide +kernel
theorem dL_law_367 : decode cL_law 367 = .ok (.iconst (-1), 1) := by decide +kernel
theorem dL_law_368 : decode cL_law 368 = .ok (.iconst 0, 1) := by decide +kernel
theorem dL_law_369 : decode cL_law 369 = .ok (.iconst 0, 1) := by decide +kernel
theorem dL_law_370 : decode cL_law 370 = .ok (.iconst 0, 1) := by decide +kernel
theorem dL_law_371 : decode cL_law 371 = .ok (.invokestatic 97, 3) := by decide +kernel
theorem dL_law_374 : decode cL_law 374 = .ok (.bipush (-62), 2) := by decide +kernel
theorem dL_law_376 : decode cL_law 376 = .ok (.if_icmp .ne 7, 3) := by decide +kernel
theorem dL_law_379 : decode cL_law 379 = .ok (.iconst 1, 1) := by decide +kernel
theorem dL_law_380 : decode cL_law 380 = .ok (.goto 4, 3) := by decide +kernel
theorem dL_law_383 : decode cL_law 383 = .ok (.iconst 0, 1) := by decide +kernel
theorem dL_law_384 : decode cL_law 384 = .ok (.istore_n 3, 1) := by decide +kernel
theorem dL_law_385 : decode cL_law 385 = .ok (.iload 10, 2) := by decide +kernel
theorem dL_law_387 : decode cL_law 387 = .ok (.istore 4, 2) := by decide +kernel
theorem dL_law_389 : decode cL_law 389 = .ok (.iload_n 3, 1) := by decide +kernel
theorem dL_law_390 : decode cL_law 390 = .ok (.ifCond .eq 41, 3) := by decide +kernel
theorem dL_law_393 : decode cL_law 393 = .ok (.aload_n 1, 1) := by decide +kernel
theorem dL_law_394 : decode cL_law 394 = .ok (.iload 7, 2) := by decide +kernel
theorem dL_law_396 : decode cL_law 396 = .ok (.iconst 2, 1) := by decide +kernel
theorem dL_law_397 : decode cL_law 397 = .ok (.ishr, 1) := by decide +kernel
theorem dL_law_398 : decode cL_law 398 = .ok (.iload 6, 2) := by decide +kernel
theorem dL_law_400 : decode cL_law 400 = .ok (.iconst 5, 1) := by decide +kernel
theorem dL_law_401 : decode cL_law 401 = .ok (.imul, 1) := by decide +kernel
theorem dL_law_402 : decode cL_law 402 = .ok (.iload 7, 2) := by decide +kernel
theorem dL_law_404 : decode cL_law 404 = .ok (.iadd, 1) := by decide +kernel
theorem dL_law_405 : decode cL_law 405 = .ok (.iconst 0, 1) := by decide +kernel
theorem dL_law_406 : decode cL_law 406 = .ok (.invokestatic 118, 3) := by decide +kernel
theorem dL_law_409 : decode cL_law 409 = .ok (.ifCond .eq 22, 3) := by decide +kernel
theorem dL_law_412 : decode cL_law 412 = .ok (.iload 5, 2) := by decide +kernel
theorem dL_law_414 : decode cL_law 414 = .ok (.bipush 9, 2) := by decide +kernel
theorem dL_law_416 : decode cL_law 416 = .ok (.irem, 1) := by decide +kernel
theorem dL_law_417 : decode cL_law 417 = .ok (.ifCond .gt 10, 3) := by decide +kernel
theorem dL_law_420 : decode cL_law 420 = .ok (.aload_n 1, 1) := by decide +kernel
theorem dL_law_421 : decode cL_law 421 = .ok (.invokestatic 108, 3) := by decide +kernel
theorem dL_law_424 : decode cL_law 424 = .ok (.ifCond .eq 7, 3) := by decide +kernel
theorem dL_law_427 : decode cL_law 427 = .ok (.iconst 1, 1) := by decide +kernel
theorem dL_law_428 : decode cL_law 428 = .ok (.goto 4, 3) := by decide +kernel
theorem dL_law_431 : decode cL_law 431 = .ok (.iconst 0, 1) := by decide +kernel
theorem dL_law_432 : decode cL_law 432 = .ok (.istore_n 3, 1) := by decide +kernel
theorem dL_law_433 : decode cL_law 433 = .ok (.iinc 5 1, 3) := by decide +kernel
theorem dL_law_436 : decode cL_law 436 = .ok (.goto (-381), 3) := by decide +kernel
theorem dL_law_439 : decode cL_law 439 = .ok (.iload_n 3, 1) := by decide +kernel
theorem dL_law_440 : decode cL_law 440 = .ok (.ifCond .eq 14, 3) := by decide +kernel
theorem dL_law_443 : decode cL_law 443 = .ok (.aload_n 1, 1) := by decide +kernel
theorem dL_law_444 : decode cL_law 444 = .ok (.invokestatic 108, 3) := by decide +kernel
theorem dL_law_447 : decode cL_law 447 = .ok (.ifCond .eq 7, 3) := by decide +kernel
theorem dL_law_450 : decode cL_law 450 = .ok (.iconst 1, 1) := by decide +kernel
theorem dL_law_451 : decode cL_law 451 = .ok (.goto 4, 3) := by decide +kernel
theorem dL_law_454 : decode cL_law 454 = .ok (.iconst 0, 1) := by decide +kernel
theorem dL_law_455 : decode cL_law 455 = .ok (.ireturn, 1) := by decide +kernel
