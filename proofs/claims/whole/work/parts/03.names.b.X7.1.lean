theorem dX7_count_204 : decode cX7_count 204 = .ok (.if_icmp .ne 10, 3) := by decide +kernel
theorem dX7_count_207 : decode cX7_count 207 = .ok (.iload 4, 2) := by decide +kernel
theorem dX7_count_209 : decode cX7_count 209 = .ok (.iload 5, 2) := by decide +kernel
theorem dX7_count_211 : decode cX7_count 211 = .ok (.if_icmp .le 7, 3) := by decide +kernel
theorem dX7_count_214 : decode cX7_count 214 = .ok (.iconst 1, 1) := by decide +kernel
theorem dX7_count_215 : decode cX7_count 215 = .ok (.goto 4, 3) := by decide +kernel
theorem dX7_count_218 : decode cX7_count 218 = .ok (.iconst 0, 1) := by decide +kernel
theorem dX7_count_219 : decode cX7_count 219 = .ok (.putfield 117, 3) := by decide +kernel
theorem dX7_count_222 : decode cX7_count 222 = .ok (.goto 27, 3) := by decide +kernel
theorem dX7_count_225 : decode cX7_count 225 = .ok (.iload_n 3, 1) := by decide +kernel
theorem dX7_count_226 : decode cX7_count 226 = .ok (.bipush 42, 2) := by decide +kernel
theorem dX7_count_228 : decode cX7_count 228 = .ok (.if_icmp .eq 21, 3) := by decide +kernel
theorem dX7_count_231 : decode cX7_count 231 = .ok (.iload_n 3, 1) := by decide +kernel
theorem dX7_count_232 : decode cX7_count 232 = .ok (.bipush 43, 2) := by decide +kernel
theorem dX7_count_234 : decode cX7_count 234 = .ok (.if_icmp .eq 15, 3) := by decide +kernel
theorem dX7_count_237 : decode cX7_count 237 = .ok (.iload_n 3, 1) := by decide +kernel
theorem dX7_count_238 : decode cX7_count 238 = .ok (.bipush 63, 2) := by decide +kernel
theorem dX7_count_240 : decode cX7_count 240 = .ok (.if_icmp .eq 9, 3) := by decide +kernel
theorem dX7_count_243 : decode cX7_count 243 = .ok (.aload_n 0, 1) := by decide +kernel
theorem dX7_count_244 : decode cX7_count 244 = .ok (.iload_n 2, 1) := by decide +kernel
theorem dX7_count_245 : decode cX7_count 245 = .ok (.invokevirtual 132, 3) := by decide +kernel
theorem dX7_count_248 : decode cX7_count 248 = .ok (.return_, 1) := by decide +kernel
theorem dX7_count_249 : decode cX7_count 249 = .ok (.aload_n 0, 1) := by decide +kernel
theorem dX7_count_250 : decode cX7_count 250 = .ok (.dup, 1) := by decide +kernel
theorem dX7_count_251 : decode cX7_count 251 = .ok (.getfield 139, 3) := by decide +kernel
theorem dX7_count_254 : decode cX7_count 254 = .ok (.iconst 1, 1) := by decide +kernel
theorem dX7_count_255 : decode cX7_count 255 = .ok (.iadd, 1) := by decide +kernel
theorem dX7_count_256 : decode cX7_count 256 = .ok (.putfield 139, 3) := by decide +kernel
theorem dX7_count_259 : decode cX7_count 259 = .ok (.aload_n 0, 1) := by decide +kernel
theorem dX7_count_260 : decode cX7_count 260 = .ok (.aload_n 0, 1) := by decide +kernel
theorem dX7_count_261 : decode cX7_count 261 = .ok (.getfield 139, 3) := by decide +kernel
theorem dX7_count_264 : decode cX7_count 264 = .ok (.invokevirtual 142, 3) := by decide +kernel
theorem dX7_count_267 : decode cX7_count 267 = .ok (.bipush 63, 2) := by decide +kernel
theorem dX7_count_269 : decode cX7_count 269 = .ok (.if_icmp .ne 7, 3) := by decide +kernel
theorem dX7_count_272 : decode cX7_count 272 = .ok (.iconst 1, 1) := by decide +kernel
theorem dX7_count_273 : decode cX7_count 273 = .ok (.goto 4, 3) := by decide +kernel
theorem dX7_count_276 : decode cX7_count 276 = .ok (.iconst 0, 1) := by decide +kernel
theorem dX7_count_277 : decode cX7_count 277 = .ok (.istore 6, 2) := by decide +kernel
theorem dX7_count_279 : decode cX7_count 279 = .ok (.aload_n 0, 1) := by decide +kernel
theorem dX7_count_280 : decode cX7_count 280 = .ok (.dup, 1) := by decide +kernel
theorem dX7_count_281 : decode cX7_count 281 = .ok (.getfield 139, 3) := by decide +kernel
theorem dX7_count_284 : decode cX7_count 284 = .ok (.iload 6, 2) := by decide +kernel
theorem dX7_count_286 : decode cX7_count 286 = .ok (.iadd, 1) := by decide +kernel
theorem dX7_count_287 : decode cX7_count 287 = .ok (.putfield 139, 3) := by decide +kernel
theorem dX7_count_290 : decode cX7_count 290 = .ok (.iload 5, 2) := by decide +kernel
theorem dX7_count_292 : decode cX7_count 292 = .ok (.bipush 99, 2) := by decide +kernel
theorem dX7_count_294 : decode cX7_count 294 = .ok (.if_icmp .ne 10, 3) := by decide +kernel
theorem dX7_count_297 : decode cX7_count 297 = .ok (.iload 4, 2) := by decide +kernel
theorem dX7_count_299 : decode cX7_count 299 = .ok (.iconst 1, 1) := by decide +kernel
theorem dX7_count_300 : decode cX7_count 300 = .ok (.iadd, 1) := by decide +kernel
theorem dX7_count_301 : decode cX7_count 301 = .ok (.goto 5, 3) := by decide +kernel
theorem dX7_count_304 : decode cX7_count 304 = .ok (.iload 5, 2) := by decide +kernel
theorem dX7_count_306 : decode cX7_count 306 = .ok (.istore 7, 2) := by decide +kernel
theorem dX7_count_308 : decode cX7_count 308 = .ok (.aload_n 0, 1) := by decide +kernel
theorem dX7_count_309 : decode cX7_count 309 = .ok (.iload_n 2, 1) := by decide +kernel
theorem dX7_count_310 : decode cX7_count 310 = .ok (.iload 7, 2) := by decide +kernel
theorem dX7_count_312 : decode cX7_count 312 = .ok (.iconst 1, 1) := by decide +kernel
theorem dX7_count_313 : decode cX7_count 313 = .ok (.if_icmp .ge 7, 3) := by decide +kernel
theorem dX7_count_316 : decode cX7_count 316 = .ok (.iconst 1, 1) := by decide +kernel
theorem dX7_count_317 : decode cX7_count 317 = .ok (.goto 5, 3) := by decide +kernel
theorem dX7_count_320 : decode cX7_count 320 = .ok (.iload 7, 2) := by decide +kernel
theorem dX7_count_322 : decode cX7_count 322 = .ok (.imul, 1) := by decide +kernel
theorem dX7_count_323 : decode cX7_count 323 = .ok (.iconst 2, 1) := by decide +kernel
theorem dX7_count_324 : decode cX7_count 324 = .ok (.iadd, 1) := by decide +kernel
theorem dX7_count_325 : decode cX7_count 325 = .ok (.invokevirtual 132, 3) := by decide +kernel
theorem dX7_count_328 : decode cX7_count 328 = .ok (.aload_n 0, 1) := by decide +kernel
theorem dX7_count_329 : decode cX7_count 329 = .ok (.getfield 35, 3) := by decide +kernel
theorem dX7_count_332 : decode cX7_count 332 = .ok (.iload_n 1, 1) := by decide +kernel
theorem dX7_count_333 : decode cX7_count 333 = .ok (.bipush 14, 2) := by decide +kernel
theorem dX7_count_335 : decode cX7_count 335 = .ok (.iastore, 1) := by decide +kernel
theorem dX7_count_336 : decode cX7_count 336 = .ok (.aload_n 0, 1) := by decide +kernel
theorem dX7_count_337 : decode cX7_count 337 = .ok (.getfield 38, 3) := by decide +kernel
theorem dX7_count_340 : decode cX7_count 340 = .ok (.iload_n 1, 1) := by decide +kernel
theorem dX7_count_341 : decode cX7_count 341 = .ok (.iload 4, 2) := by decide +kernel
theorem dX7_count_343 : decode cX7_count 343 = .ok (.sipush 128, 3) := by decide +kernel
theorem dX7_count_346 : decode cX7_count 346 = .ok (.iload 5, 2) := by decide +kernel
theorem dX7_count_348 : decode cX7_count 348 = .ok (.imul, 1) := by decide +kernel
theorem dX7_count_349 : decode cX7_count 349 = .ok (.iadd, 1) := by decide +kernel
theorem dX7_count_350 : decode cX7_count 350 = .ok (.ldc 149, 2) := by decide +kernel
theorem dX7_count_352 : decode cX7_count 352 = .ok (.iload 6, 2) := by decide +kernel
theorem dX7_count_354 : decode cX7_count 354 = .ok (.imul, 1) := by decide +kernel
theorem dX7_count_355 : decode cX7_count 355 = .ok (.iadd, 1) := by decide +kernel
theorem dX7_count_356 : decode cX7_count 356 = .ok (.iastore, 1) := by decide +kernel
theorem dX7_count_357 : decode cX7_count 357 = .ok (.aload_n 0, 1) := by decide +kernel
theorem dX7_count_358 : decode cX7_count 358 = .ok (.getfield 44, 3) := by decide +kernel
theorem dX7_count_361 : decode cX7_count 361 = .ok (.iload_n 1, 1) := by decide +kernel
theorem dX7_count_362 : decode cX7_count 362 = .ok (.aload_n 0, 1) := by decide +kernel
theorem dX7_count_363 : decode cX7_count 363 = .ok (.getfield 150, 3) := by decide +kernel
theorem dX7_count_366 : decode cX7_count 366 = .ok (.iastore, 1) := by decide +kernel
theorem dX7_count_367 : decode cX7_count 367 = .ok (.aload_n 0, 1) := by decide +kernel
theorem dX7_count_368 : decode cX7_count 368 = .ok (.getfield 41, 3) := by decide +kernel
theorem dX7_count_371 : decode cX7_count 371 = .ok (.iload_n 1, 1) := by decide +kernel
theorem dX7_count_372 : decode cX7_count 372 = .ok (.bipush 16, 2) := by decide +kernel
theorem dX7_count_374 : decode cX7_count 374 = .ok (.aload_n 0, 1) := by decide +kernel
theorem dX7_count_375 : decode cX7_count 375 = .ok (.getfield 41, 3) := by decide +kernel
theorem dX7_count_378 : decode cX7_count 378 = .ok (.iload_n 1, 1) := by decide +kernel
theorem dX7_count_379 : decode cX7_count 379 = .ok (.iaload, 1) := by decide +kernel
theorem dX7_count_380 : decode cX7_count 380 = .ok (.imul, 1) := by decide +kernel
theorem dX7_count_381 : decode cX7_count 381 = .ok (.aload_n 0, 1) := by decide +kernel
theorem dX7_count_382 : decode cX7_count 382 = .ok (.getfield 153, 3) := by decide +kernel
theorem dX7_count_385 : decode cX7_count 385 = .ok (.iadd, 1) := by decide +kernel
theorem dX7_count_386 : decode cX7_count 386 = .ok (.sipush 4096, 3) := by decide +kernel
theorem dX7_count_389 : decode cX7_count 389 = .ok (.aload_n 0, 1) := by decide +kernel
theorem dX7_count_390 : decode cX7_count 390 = .ok (.getfield 114, 3) := by decide +kernel
theorem dX7_count_393 : decode cX7_count 393 = .ok (.imul, 1) := by decide +kernel
theorem dX7_count_394 : decode cX7_count 394 = .ok (.iadd, 1) := by decide +kernel
theorem dX7_count_395 : decode cX7_count 395 = .ok (.iastore, 1) := by decide +kernel
theorem dX7_count_396 : decode cX7_count 396 = .ok (.aload_n 0, 1) := by decide +kernel
theorem dX7_count_397 : decode cX7_count 397 = .ok (.bipush 15, 2) := by decide +kernel
theorem dX7_count_399 : decode cX7_count 399 = .ok (.iload_n 1, 1) := by decide +kernel
theorem dX7_count_400 : decode cX7_count 400 = .ok (.iconst 0, 1) := by decide +kernel
theorem dX7_count_401 : decode cX7_count 401 = .ok (.iconst 0, 1) := by decide +kernel
theorem dX7_count_402 : decode cX7_count 402 = .ok (.invokevirtual 124, 3) := by decide +kernel
theorem dX7_count_405 : decode cX7_count 405 = .ok (.pop, 1) := by decide +kernel
theorem dX7_count_406 : decode cX7_count 406 = .ok (.aload_n 0, 1) := by decide +kernel
theorem dX7_count_407 : decode cX7_count 407 = .ok (.dup, 1) := by decide +kernel
theorem dX7_count_408 : decode cX7_count 408 = .ok (.getfield 150, 3) := by decide +kernel
theorem dX7_count_411 : decode cX7_count 411 = .ok (.iconst 1, 1) := by decide +kernel
theorem dX7_count_412 : decode cX7_count 412 = .ok (.iadd, 1) := by decide +kernel
theorem dX7_count_413 : decode cX7_count 413 = .ok (.putfield 150, 3) := by decide +kernel
theorem dX7_count_416 : decode cX7_count 416 = .ok (.return_, 1) := by decide +kernel
theorem dX7_openParenthesis_0 : decode cX7_openParenthesis 0 = .ok (.aload_n 0, 1) := by decide +kernel
theorem dX7_openParenthesis_1 : decode cX7_openParenthesis 1 = .ok (.dup, 1) := by decide +kernel
theorem dX7_openParenthesis_2 : decode cX7_openParenthesis 2 = .ok (.getfield 139, 3) := by decide +kernel
theorem dX7_openParenthesis_5 : decode cX7_openParenthesis 5 = .ok (.iconst 1, 1) := by decide +kernel
theorem dX7_openParenthesis_6 : decode cX7_openParenthesis 6 = .ok (.iadd, 1) := by decide +kernel
theorem dX7_openParenthesis_7 : decode cX7_openParenthesis 7 = .ok (.putfield 139, 3) := by decide +kernel
theorem dX7_openParenthesis_10 : decode cX7_openParenthesis 10 = .ok (.aload_n 0, 1) := by decide +kernel
theorem dX7_openParenthesis_11 : decode cX7_openParenthesis 11 = .ok (.aload_n 0, 1) := by decide +kernel
theorem dX7_openParenthesis_12 : decode cX7_openParenthesis 12 = .ok (.getfield 139, 3) := by decide +kernel
theorem dX7_openParenthesis_15 : decode cX7_openParenthesis 15 = .ok (.invokevirtual 142, 3) := by decide +kernel
theorem dX7_openParenthesis_18 : decode cX7_openParenthesis 18 = .ok (.bipush 63, 2) := by decide +kernel
theorem dX7_openParenthesis_20 : decode cX7_openParenthesis 20 = .ok (.if_icmp .eq 61, 3) := by decide +kernel
theorem dX7_openParenthesis_23 : decode cX7_openParenthesis 23 = .ok (.aload_n 0, 1) := by decide +kernel
theorem dX7_openParenthesis_24 : decode cX7_openParenthesis 24 = .ok (.bipush 17, 2) := by decide +kernel
theorem dX7_openParenthesis_26 : decode cX7_openParenthesis 26 = .ok (.iconst 0, 1) := by decide +kernel
theorem dX7_openParenthesis_27 : decode cX7_openParenthesis 27 = .ok (.aload_n 0, 1) := by decide +kernel
theorem dX7_openParenthesis_28 : decode cX7_openParenthesis 28 = .ok (.getfield 153, 3) := by decide +kernel
theorem dX7_openParenthesis_31 : decode cX7_openParenthesis 31 = .ok (.iconst 0, 1) := by decide +kernel
theorem dX7_openParenthesis_32 : decode cX7_openParenthesis 32 = .ok (.invokevirtual 124, 3) := by decide +kernel
theorem dX7_openParenthesis_35 : decode cX7_openParenthesis 35 = .ok (.istore_n 1, 1) := by decide +kernel
theorem dX7_openParenthesis_36 : decode cX7_openParenthesis 36 = .ok (.aload_n 0, 1) := by decide +kernel
theorem dX7_openParenthesis_37 : decode cX7_openParenthesis 37 = .ok (.dup, 1) := by decide +kernel
theorem dX7_openParenthesis_38 : decode cX7_openParenthesis 38 = .ok (.getfield 153, 3) := by decide +kernel
theorem dX7_openParenthesis_41 : decode cX7_openParenthesis 41 = .ok (.iconst 1, 1) := by decide +kernel
theorem dX7_openParenthesis_42 : decode cX7_openParenthesis 42 = .ok (.iadd, 1) := by decide +kernel
theorem dX7_openParenthesis_43 : decode cX7_openParenthesis 43 = .ok (.putfield 153, 3) := by decide +kernel
theorem dX7_openParenthesis_46 : decode cX7_openParenthesis 46 = .ok (.aload_n 0, 1) := by decide +kernel
theorem dX7_openParenthesis_47 : decode cX7_openParenthesis 47 = .ok (.bipush 10, 2) := by decide +kernel
theorem dX7_openParenthesis_49 : decode cX7_openParenthesis 49 = .ok (.aload_n 0, 1) := by decide +kernel
theorem dX7_openParenthesis_50 : decode cX7_openParenthesis 50 = .ok (.getfield 153, 3) := by decide +kernel
theorem dX7_openParenthesis_53 : decode cX7_openParenthesis 53 = .ok (.iconst 0, 1) := by decide +kernel
theorem dX7_openParenthesis_54 : decode cX7_openParenthesis 54 = .ok (.iconst 0, 1) := by decide +kernel
theorem dX7_openParenthesis_55 : decode cX7_openParenthesis 55 = .ok (.invokevirtual 124, 3) := by decide +kernel
theorem dX7_openParenthesis_58 : decode cX7_openParenthesis 58 = .ok (.pop, 1) := by decide +kernel
theorem dX7_openParenthesis_59 : decode cX7_openParenthesis 59 = .ok (.aload_n 0, 1) := by decide +kernel
theorem dX7_openParenthesis_60 : decode cX7_openParenthesis 60 = .ok (.iconst 1, 1) := by decide +kernel
theorem dX7_openParenthesis_61 : decode cX7_openParenthesis 61 = .ok (.iload_n 1, 1) := by decide +kernel
theorem dX7_openParenthesis_62 : decode cX7_openParenthesis 62 = .ok (.invokevirtual 156, 3) := by decide +kernel
theorem dX7_openParenthesis_65 : decode cX7_openParenthesis 65 = .ok (.aload_n 0, 1) := by decide +kernel
theorem dX7_openParenthesis_66 : decode cX7_openParenthesis 66 = .ok (.getfield 50, 3) := by decide +kernel
theorem dX7_openParenthesis_69 : decode cX7_openParenthesis 69 = .ok (.aload_n 0, 1) := by decide +kernel
theorem dX7_openParenthesis_70 : decode cX7_openParenthesis 70 = .ok (.getfield 121, 3) := by decide +kernel
theorem dX7_openParenthesis_73 : decode cX7_openParenthesis 73 = .ok (.iconst 1, 1) := by decide +kernel
theorem dX7_openParenthesis_74 : decode cX7_openParenthesis 74 = .ok (.isub, 1) := by decide +kernel
theorem dX7_openParenthesis_75 : decode cX7_openParenthesis 75 = .ok (.aload_n 0, 1) := by decide +kernel
theorem dX7_openParenthesis_76 : decode cX7_openParenthesis 76 = .ok (.getfield 153, 3) := by decide +kernel
theorem dX7_openParenthesis_79 : decode cX7_openParenthesis 79 = .ok (.iastore, 1) := by decide +kernel
theorem dX7_openParenthesis_80 : decode cX7_openParenthesis 80 = .ok (.return_, 1) := by decide +kernel
theorem dX7_openParenthesis_81 : decode cX7_openParenthesis 81 = .ok (.aload_n 0, 1) := by decide +kernel
theorem dX7_openParenthesis_82 : decode cX7_openParenthesis 82 = .ok (.aload_n 0, 1) := by decide +kernel
theorem dX7_openParenthesis_83 : decode cX7_openParenthesis 83 = .ok (.getfield 139, 3) := by decide +kernel
theorem dX7_openParenthesis_86 : decode cX7_openParenthesis 86 = .ok (.iconst 1, 1) := by decide +kernel
theorem dX7_openParenthesis_87 : decode cX7_openParenthesis 87 = .ok (.iadd, 1) := by decide +kernel
theorem dX7_openParenthesis_88 : decode cX7_openParenthesis 88 = .ok (.invokevirtual 142, 3) := by decide +kernel
theorem dX7_openParenthesis_91 : decode cX7_openParenthesis 91 = .ok (.istore_n 1, 1) := by decide +kernel
theorem dX7_openParenthesis_92 : decode cX7_openParenthesis 92 = .ok (.aload_n 0, 1) := by decide +kernel
theorem dX7_openParenthesis_93 : decode cX7_openParenthesis 93 = .ok (.dup, 1) := by decide +kernel
theorem dX7_openParenthesis_94 : decode cX7_openParenthesis 94 = .ok (.getfield 139, 3) := by decide +kernel
theorem dX7_openParenthesis_97 : decode cX7_openParenthesis 97 = .ok (.iconst 2, 1) := by decide +kernel
theorem dX7_openParenthesis_98 : decode cX7_openParenthesis 98 = .ok (.iadd, 1) := by decide +kernel
theorem dX7_openParenthesis_99 : decode cX7_openParenthesis 99 = .ok (.putfield 139, 3) := by decide +kernel
theorem dX7_openParenthesis_102 : decode cX7_openParenthesis 102 = .ok (.iload_n 1, 1) := by decide +kernel
theorem dX7_openParenthesis_103 : decode cX7_openParenthesis 103 = .ok (.bipush 58, 2) := by decide +kernel
theorem dX7_openParenthesis_105 : decode cX7_openParenthesis 105 = .ok (.if_icmp .ne 25, 3) := by decide +kernel
theorem dX7_openParenthesis_108 : decode cX7_openParenthesis 108 = .ok (.aload_n 0, 1) := by decide +kernel
theorem dX7_openParenthesis_109 : decode cX7_openParenthesis 109 = .ok (.bipush 17, 2) := by decide +kernel
theorem dX7_openParenthesis_111 : decode cX7_openParenthesis 111 = .ok (.iconst 0, 1) := by decide +kernel
theorem dX7_openParenthesis_112 : decode cX7_openParenthesis 112 = .ok (.aload_n 0, 1) := by decide +kernel
theorem dX7_openParenthesis_113 : decode cX7_openParenthesis 113 = .ok (.getfield 153, 3) := by decide +kernel
theorem dX7_openParenthesis_116 : decode cX7_openParenthesis 116 = .ok (.iconst 0, 1) := by decide +kernel
theorem dX7_openParenthesis_117 : decode cX7_openParenthesis 117 = .ok (.invokevirtual 124, 3) := by decide +kernel
theorem dX7_openParenthesis_120 : decode cX7_openParenthesis 120 = .ok (.istore_n 2, 1) := by decide +kernel
theorem dX7_openParenthesis_121 : decode cX7_openParenthesis 121 = .ok (.aload_n 0, 1) := by decide +kernel
theorem dX7_openParenthesis_122 : decode cX7_openParenthesis 122 = .ok (.iconst 2, 1) := by decide +kernel
theorem dX7_openParenthesis_123 : decode cX7_openParenthesis 123 = .ok (.iload_n 2, 1) := by decide +kernel
theorem dX7_openParenthesis_124 : decode cX7_openParenthesis 124 = .ok (.invokevirtual 156, 3) := by decide +kernel
theorem dX7_openParenthesis_127 : decode cX7_openParenthesis 127 = .ok (.goto 72, 3) := by decide +kernel
theorem dX7_openParenthesis_130 : decode cX7_openParenthesis 130 = .ok (.iload_n 1, 1) := by decide +kernel
theorem dX7_openParenthesis_131 : decode cX7_openParenthesis 131 = .ok (.bipush 61, 2) := by decide +kernel
theorem dX7_openParenthesis_133 : decode cX7_openParenthesis 133 = .ok (.if_icmp .eq 9, 3) := by decide +kernel
theorem dX7_openParenthesis_136 : decode cX7_openParenthesis 136 = .ok (.iload_n 1, 1) := by decide +kernel
theorem dX7_openParenthesis_137 : decode cX7_openParenthesis 137 = .ok (.bipush 33, 2) := by decide +kernel
theorem dX7_openParenthesis_139 : decode cX7_openParenthesis 139 = .ok (.if_icmp .ne 55, 3) := by decide +kernel
theorem dX7_openParenthesis_142 : decode cX7_openParenthesis 142 = .ok (.aload_n 0, 1) := by decide +kernel
theorem dX7_openParenthesis_143 : decode cX7_openParenthesis 143 = .ok (.bipush 12, 2) := by decide +kernel
theorem dX7_openParenthesis_145 : decode cX7_openParenthesis 145 = .ok (.iload_n 1, 1) := by decide +kernel
theorem dX7_openParenthesis_146 : decode cX7_openParenthesis 146 = .ok (.bipush 61, 2) := by decide +kernel
theorem dX7_openParenthesis_148 : decode cX7_openParenthesis 148 = .ok (.if_icmp .ne 7, 3) := by decide +kernel
theorem dX7_openParenthesis_151 : decode cX7_openParenthesis 151 = .ok (.iconst 1, 1) := by decide +kernel
theorem dX7_openParenthesis_152 : decode cX7_openParenthesis 152 = .ok (.goto 4, 3) := by decide +kernel
theorem dX7_openParenthesis_155 : decode cX7_openParenthesis 155 = .ok (.iconst 0, 1) := by decide +kernel
theorem dX7_openParenthesis_156 : decode cX7_openParenthesis 156 = .ok (.iconst 0, 1) := by decide +kernel
theorem dX7_openParenthesis_157 : decode cX7_openParenthesis 157 = .ok (.aload_n 0, 1) := by decide +kernel
theorem dX7_openParenthesis_158 : decode cX7_openParenthesis 158 = .ok (.getfield 159, 3) := by decide +kernel
theorem dX7_openParenthesis_161 : decode cX7_openParenthesis 161 = .ok (.invokevirtual 124, 3) := by decide +kernel
theorem dX7_openParenthesis_164 : decode cX7_openParenthesis 164 = .ok (.istore_n 2, 1) := by decide +kernel
theorem dX7_openParenthesis_165 : decode cX7_openParenthesis 165 = .ok (.aload_n 0, 1) := by decide +kernel
theorem dX7_openParenthesis_166 : decode cX7_openParenthesis 166 = .ok (.dup, 1) := by decide +kernel
theorem dX7_openParenthesis_167 : decode cX7_openParenthesis 167 = .ok (.getfield 159, 3) := by decide +kernel
theorem dX7_openParenthesis_170 : decode cX7_openParenthesis 170 = .ok (.iconst 1, 1) := by decide +kernel
theorem dX7_openParenthesis_171 : decode cX7_openParenthesis 171 = .ok (.iadd, 1) := by decide +kernel
theorem dX7_openParenthesis_172 : decode cX7_openParenthesis 172 = .ok (.putfield 159, 3) := by decide +kernel
theorem dX7_openParenthesis_175 : decode cX7_openParenthesis 175 = .ok (.aload_n 0, 1) := by decide +kernel
theorem dX7_openParenthesis_176 : decode cX7_openParenthesis 176 = .ok (.iload_n 1, 1) := by decide +kernel
theorem dX7_openParenthesis_177 : decode cX7_openParenthesis 177 = .ok (.bipush 61, 2) := by decide +kernel
theorem dX7_openParenthesis_179 : decode cX7_openParenthesis 179 = .ok (.if_icmp .ne 7, 3) := by decide +kernel
theorem dX7_openParenthesis_182 : decode cX7_openParenthesis 182 = .ok (.iconst 3, 1) := by decide +kernel
theorem dX7_openParenthesis_183 : decode cX7_openParenthesis 183 = .ok (.goto 4, 3) := by decide +kernel
theorem dX7_openParenthesis_186 : decode cX7_openParenthesis 186 = .ok (.iconst 4, 1) := by decide +kernel
theorem dX7_openParenthesis_187 : decode cX7_openParenthesis 187 = .ok (.iload_n 2, 1) := by decide +kernel
theorem dX7_openParenthesis_188 : decode cX7_openParenthesis 188 = .ok (.invokevirtual 156, 3) := by decide +kernel
theorem dX7_openParenthesis_191 : decode cX7_openParenthesis 191 = .ok (.goto 8, 3) := by decide +kernel
theorem dX7_openParenthesis_194 : decode cX7_openParenthesis 194 = .ok (.aload_n 0, 1) := by decide +kernel
theorem dX7_openParenthesis_195 : decode cX7_openParenthesis 195 = .ok (.iconst 1, 1) := by decide +kernel
theorem dX7_openParenthesis_196 : decode cX7_openParenthesis 196 = .ok (.putfield 117, 3) := by decide +kernel
theorem dX7_openParenthesis_199 : decode cX7_openParenthesis 199 = .ok (.return_, 1) := by decide +kernel
theorem dX7_mark_0 : decode cX7_mark 0 = .ok (.aload_n 0, 1) := by decide +kernel
theorem dX7_mark_1 : decode cX7_mark 1 = .ok (.aload_n 0, 1) := by decide +kernel
theorem dX7_mark_2 : decode cX7_mark 2 = .ok (.getfield 139, 3) := by decide +kernel
theorem dX7_mark_5 : decode cX7_mark 5 = .ok (.invokevirtual 142, 3) := by decide +kernel
theorem dX7_mark_8 : decode cX7_mark 8 = .ok (.istore_n 1, 1) := by decide +kernel
theorem dX7_mark_9 : decode cX7_mark 9 = .ok (.iload_n 1, 1) := by decide +kernel
theorem dX7_mark_10 : decode cX7_mark 10 = .ok (.ifCond .eq 9, 3) := by decide +kernel
theorem dX7_mark_13 : decode cX7_mark 13 = .ok (.iload_n 1, 1) := by decide +kernel
theorem dX7_mark_14 : decode cX7_mark 14 = .ok (.bipush 93, 2) := by decide +kernel
theorem dX7_mark_16 : decode cX7_mark 16 = .ok (.if_icmp .ne 5, 3) := by decide +kernel
theorem dX7_mark_19 : decode cX7_mark 19 = .ok (.iconst 0, 1) := by decide +kernel
theorem dX7_mark_20 : decode cX7_mark 20 = .ok (.ireturn, 1) := by decide +kernel
theorem dX7_mark_21 : decode cX7_mark 21 = .ok (.aload_n 0, 1) := by decide +kernel
theorem dX7_mark_22 : decode cX7_mark 22 = .ok (.dup, 1) := by decide +kernel
theorem dX7_mark_23 : decode cX7_mark 23 = .ok (.getfield 139, 3) := by decide +kernel
theorem dX7_mark_26 : decode cX7_mark 26 = .ok (.iconst 1, 1) := by decide +kernel
theorem dX7_mark_27 : decode cX7_mark 27 = .ok (.iadd, 1) := by decide +kernel
theorem dX7_mark_28 : decode cX7_mark 28 = .ok (.putfield 139, 3) := by decide +kernel
theorem dX7_mark_31 : decode cX7_mark 31 = .ok (.iload_n 1, 1) := by decide +kernel
theorem dX7_mark_32 : decode cX7_mark 32 = .ok (.bipush 92, 2) := by decide +kernel
theorem dX7_mark_34 : decode cX7_mark 34 = .ok (.if_icmp .eq 5, 3) := by decide +kernel
theorem dX7_mark_37 : decode cX7_mark 37 = .ok (.iload_n 1, 1) := by decide +kernel
theorem dX7_mark_38 : decode cX7_mark 38 = .ok (.ireturn, 1) := by decide +kernel
theorem dX7_mark_39 : decode cX7_mark 39 = .ok (.aload_n 0, 1) := by decide +kernel
theorem dX7_mark_40 : decode cX7_mark 40 = .ok (.aload_n 0, 1) := by decide +kernel
theorem dX7_mark_41 : decode cX7_mark 41 = .ok (.getfield 139, 3) := by decide +kernel
theorem dX7_mark_44 : decode cX7_mark 44 = .ok (.invokevirtual 142, 3) := by decide +kernel
theorem dX7_mark_47 : decode cX7_mark 47 = .ok (.istore_n 2, 1) := by decide +kernel
theorem dX7_mark_48 : decode cX7_mark 48 = .ok (.aload_n 0, 1) := by decide +kernel
theorem dX7_mark_49 : decode cX7_mark 49 = .ok (.dup, 1) := by decide +kernel
theorem dX7_mark_50 : decode cX7_mark 50 = .ok (.getfield 139, 3) := by decide +kernel
theorem dX7_mark_53 : decode cX7_mark 53 = .ok (.iconst 1, 1) := by decide +kernel
theorem dX7_mark_54 : decode cX7_mark 54 = .ok (.iadd, 1) := by decide +kernel
theorem dX7_mark_55 : decode cX7_mark 55 = .ok (.putfield 139, 3) := by decide +kernel
theorem dX7_mark_58 : decode cX7_mark 58 = .ok (.iload_n 2, 1) := by decide +kernel
theorem dX7_mark_59 : decode cX7_mark 59 = .ok (.invokestatic 162, 3) := by decide +kernel
theorem dX7_mark_62 : decode cX7_mark 62 = .ok (.ifCond .ne 15, 3) := by decide +kernel
theorem dX7_mark_65 : decode cX7_mark 65 = .ok (.iload_n 2, 1) := by decide +kernel
theorem dX7_mark_66 : decode cX7_mark 66 = .ok (.bipush 47, 2) := by decide +kernel
theorem dX7_mark_68 : decode cX7_mark 68 = .ok (.if_icmp .eq 9, 3) := by decide +kernel
theorem dX7_mark_71 : decode cX7_mark 71 = .ok (.iload_n 2, 1) := by decide +kernel
theorem dX7_mark_72 : decode cX7_mark 72 = .ok (.bipush 45, 2) := by decide +kernel
theorem dX7_mark_74 : decode cX7_mark 74 = .ok (.if_icmp .ne 5, 3) := by decide +kernel
theorem dX7_mark_77 : decode cX7_mark 77 = .ok (.iload_n 2, 1) := by decide +kernel
theorem dX7_mark_78 : decode cX7_mark 78 = .ok (.ireturn, 1) := by decide +kernel
theorem dX7_mark_79 : decode cX7_mark 79 = .ok (.iload_n 2, 1) := by decide +kernel
theorem dX7_mark_80 : decode cX7_mark 80 = .ok (.invokestatic 165, 3) := by decide +kernel
theorem dX7_mark_83 : decode cX7_mark 83 = .ok (.ifCond .eq 8, 3) := by decide +kernel
theorem dX7_mark_86 : decode cX7_mark 86 = .ok (.iload_n 2, 1) := by decide +kernel
theorem dX7_mark_87 : decode cX7_mark 87 = .ok (.ineg, 1) := by decide +kernel
theorem dX7_mark_88 : decode cX7_mark 88 = .ok (.goto 4, 3) := by decide +kernel
theorem dX7_mark_91 : decode cX7_mark 91 = .ok (.iconst 0, 1) := by decide +kernel
theorem dX7_mark_92 : decode cX7_mark 92 = .ok (.ireturn, 1) := by decide +kernel
theorem dX7_set_0 : decode cX7_set 0 = .ok (.aload_n 0, 1) := by decide +kernel
theorem dX7_set_1 : decode cX7_set 1 = .ok (.dup, 1) := by decide +kernel
theorem dX7_set_2 : decode cX7_set 2 = .ok (.getfield 139, 3) := by decide +kernel
theorem dX7_set_5 : decode cX7_set 5 = .ok (.iconst 1, 1) := by decide +kernel
theorem dX7_set_6 : decode cX7_set 6 = .ok (.iadd, 1) := by decide +kernel
theorem dX7_set_7 : decode cX7_set 7 = .ok (.putfield 139, 3) := by decide +kernel
theorem dX7_set_10 : decode cX7_set 10 = .ok (.aload_n 0, 1) := by decide +kernel
theorem dX7_set_11 : decode cX7_set 11 = .ok (.aload_n 0, 1) := by decide +kernel
theorem dX7_set_12 : decode cX7_set 12 = .ok (.getfield 139, 3) := by decide +kernel
theorem dX7_set_15 : decode cX7_set 15 = .ok (.invokevirtual 142, 3) := by decide +kernel
theorem dX7_set_18 : decode cX7_set 18 = .ok (.bipush 94, 2) := by decide +kernel
theorem dX7_set_20 : decode cX7_set 20 = .ok (.if_icmp .ne 7, 3) := by decide +kernel
theorem dX7_set_23 : decode cX7_set 23 = .ok (.iconst 1, 1) := by decide +kernel
theorem dX7_set_24 : decode cX7_set 24 = .ok (.goto 4, 3) := by decide +kernel
theorem dX7_set_27 : decode cX7_set 27 = .ok (.iconst 0, 1) := by decide +kernel
theorem dX7_set_28 : decode cX7_set 28 = .ok (.istore_n 1, 1) := by decide +kernel
theorem dX7_set_29 : decode cX7_set 29 = .ok (.aload_n 0, 1) := by decide +kernel
theorem dX7_set_30 : decode cX7_set 30 = .ok (.dup, 1) := by decide +kernel
theorem dX7_set_31 : decode cX7_set 31 = .ok (.getfield 139, 3) := by decide +kernel
theorem dX7_set_34 : decode cX7_set 34 = .ok (.iload_n 1, 1) := by decide +kernel
theorem dX7_set_35 : decode cX7_set 35 = .ok (.ifCond .eq 7, 3) := by decide +kernel
theorem dX7_set_38 : decode cX7_set 38 = .ok (.iconst 1, 1) := by decide +kernel
theorem dX7_set_39 : decode cX7_set 39 = .ok (.goto 4, 3) := by decide +kernel
theorem dX7_set_42 : decode cX7_set 42 = .ok (.iconst 0, 1) := by decide +kernel
theorem dX7_set_43 : decode cX7_set 43 = .ok (.iadd, 1) := by decide +kernel
theorem dX7_set_44 : decode cX7_set 44 = .ok (.putfield 139, 3) := by decide +kernel
theorem dX7_set_47 : decode cX7_set 47 = .ok (.aload_n 0, 1) := by decide +kernel
theorem dX7_set_48 : decode cX7_set 48 = .ok (.getfield 139, 3) := by decide +kernel
theorem dX7_set_51 : decode cX7_set 51 = .ok (.istore_n 2, 1) := by decide +kernel
theorem dX7_set_52 : decode cX7_set 52 = .ok (.iconst 1, 1) := by decide +kernel
theorem dX7_set_53 : decode cX7_set 53 = .ok (.istore_n 3, 1) := by decide +kernel
theorem dX7_set_54 : decode cX7_set 54 = .ok (.aload_n 0, 1) := by decide +kernel
theorem dX7_set_55 : decode cX7_set 55 = .ok (.getfield 117, 3) := by decide +kernel
theorem dX7_set_58 : decode cX7_set 58 = .ok (.ifCond .ne 149, 3) := by decide +kernel
theorem dX7_set_61 : decode cX7_set 61 = .ok (.aload_n 0, 1) := by decide +kernel
theorem dX7_set_62 : decode cX7_set 62 = .ok (.aload_n 0, 1) := by decide +kernel
theorem dX7_set_63 : decode cX7_set 63 = .ok (.getfield 139, 3) := by decide +kernel
theorem dX7_set_66 : decode cX7_set 66 = .ok (.invokevirtual 142, 3) := by decide +kernel
theorem dX7_set_69 : decode cX7_set 69 = .ok (.bipush 93, 2) := by decide +kernel
theorem dX7_set_71 : decode cX7_set 71 = .ok (.if_icmp .eq 136, 3) := by decide +kernel
theorem dX7_set_74 : decode cX7_set 74 = .ok (.iload_n 3, 1) := by decide +kernel
theorem dX7_set_75 : decode cX7_set 75 = .ok (.ifCond .eq 20, 3) := by decide +kernel
theorem dX7_set_78 : decode cX7_set 78 = .ok (.aload_n 0, 1) := by decide +kernel
theorem dX7_set_79 : decode cX7_set 79 = .ok (.aload_n 0, 1) := by decide +kernel
theorem dX7_set_80 : decode cX7_set 80 = .ok (.getfield 139, 3) := by decide +kernel
theorem dX7_set_83 : decode cX7_set 83 = .ok (.invokevirtual 142, 3) := by decide +kernel
theorem dX7_set_86 : decode cX7_set 86 = .ok (.bipush 45, 2) := by decide +kernel
theorem dX7_set_88 : decode cX7_set 88 = .ok (.if_icmp .ne 7, 3) := by decide +kernel
theorem dX7_set_91 : decode cX7_set 91 = .ok (.iconst 1, 1) := by decide +kernel
theorem dX7_set_92 : decode cX7_set 92 = .ok (.goto 4, 3) := by decide +kernel
theorem dX7_set_95 : decode cX7_set 95 = .ok (.iconst 0, 1) := by decide +kernel
theorem dX7_set_96 : decode cX7_set 96 = .ok (.istore 4, 2) := by decide +kernel
theorem dX7_set_98 : decode cX7_set 98 = .ok (.aload_n 0, 1) := by decide +kernel
theorem dX7_set_99 : decode cX7_set 99 = .ok (.invokevirtual 168, 3) := by decide +kernel
theorem dX7_set_102 : decode cX7_set 102 = .ok (.istore 5, 2) := by decide +kernel
theorem dX7_set_104 : decode cX7_set 104 = .ok (.aload_n 0, 1) := by decide +kernel
theorem dX7_set_105 : decode cX7_set 105 = .ok (.iload 5, 2) := by decide +kernel
theorem dX7_set_107 : decode cX7_set 107 = .ok (.ifCond .ne 7, 3) := by decide +kernel
theorem dX7_set_110 : decode cX7_set 110 = .ok (.iconst 1, 1) := by decide +kernel
theorem dX7_set_111 : decode cX7_set 111 = .ok (.goto 4, 3) := by decide +kernel
theorem dX7_set_114 : decode cX7_set 114 = .ok (.iconst 0, 1) := by decide +kernel
theorem dX7_set_115 : decode cX7_set 115 = .ok (.putfield 117, 3) := by decide +kernel
theorem dX7_set_118 : decode cX7_set 118 = .ok (.iconst 0, 1) := by decide +kernel
theorem dX7_set_119 : decode cX7_set 119 = .ok (.istore_n 3, 1) := by decide +kernel
theorem dX7_set_120 : decode cX7_set 120 = .ok (.aload_n 0, 1) := by decide +kernel
theorem dX7_set_121 : decode cX7_set 121 = .ok (.getfield 117, 3) := by decide +kernel
theorem dX7_set_124 : decode cX7_set 124 = .ok (.ifCond .ne 80, 3) := by decide +kernel
theorem dX7_set_127 : decode cX7_set 127 = .ok (.iload 4, 2) := by decide +kernel
theorem dX7_set_129 : decode cX7_set 129 = .ok (.ifCond .ne 75, 3) := by decide +kernel
theorem dX7_set_132 : decode cX7_set 132 = .ok (.aload_n 0, 1) := by decide +kernel
theorem dX7_set_133 : decode cX7_set 133 = .ok (.aload_n 0, 1) := by decide +kernel
theorem dX7_set_134 : decode cX7_set 134 = .ok (.getfield 139, 3) := by decide +kernel
theorem dX7_set_137 : decode cX7_set 137 = .ok (.invokevirtual 142, 3) := by decide +kernel
theorem dX7_set_140 : decode cX7_set 140 = .ok (.bipush 45, 2) := by decide +kernel
theorem dX7_set_142 : decode cX7_set 142 = .ok (.if_icmp .ne 62, 3) := by decide +kernel
theorem dX7_set_145 : decode cX7_set 145 = .ok (.aload_n 0, 1) := by decide +kernel
theorem dX7_set_146 : decode cX7_set 146 = .ok (.aload_n 0, 1) := by decide +kernel
theorem dX7_set_147 : decode cX7_set 147 = .ok (.getfield 139, 3) := by decide +kernel
theorem dX7_set_150 : decode cX7_set 150 = .ok (.iconst 1, 1) := by decide +kernel
theorem dX7_set_151 : decode cX7_set 151 = .ok (.iadd, 1) := by decide +kernel
theorem dX7_set_152 : decode cX7_set 152 = .ok (.invokevirtual 142, 3) := by decide +kernel
theorem dX7_set_155 : decode cX7_set 155 = .ok (.bipush 93, 2) := by decide +kernel
theorem dX7_set_157 : decode cX7_set 157 = .ok (.if_icmp .eq 47, 3) := by decide +kernel
theorem dX7_set_160 : decode cX7_set 160 = .ok (.aload_n 0, 1) := by decide +kernel
theorem dX7_set_161 : decode cX7_set 161 = .ok (.dup, 1) := by decide +kernel
theorem dX7_set_162 : decode cX7_set 162 = .ok (.getfield 139, 3) := by decide +kernel
theorem dX7_set_165 : decode cX7_set 165 = .ok (.iconst 1, 1) := by decide +kernel
theorem dX7_set_166 : decode cX7_set 166 = .ok (.iadd, 1) := by decide +kernel
theorem dX7_set_167 : decode cX7_set 167 = .ok (.putfield 139, 3) := by decide +kernel
theorem dX7_set_170 : decode cX7_set 170 = .ok (.aload_n 0, 1) := by decide +kernel
theorem dX7_set_171 : decode cX7_set 171 = .ok (.invokevirtual 168, 3) := by decide +kernel
theorem dX7_set_174 : decode cX7_set 174 = .ok (.istore 6, 2) := by decide +kernel
theorem dX7_set_176 : decode cX7_set 176 = .ok (.aload_n 0, 1) := by decide +kernel
theorem dX7_set_177 : decode cX7_set 177 = .ok (.iload 5, 2) := by decide +kernel
theorem dX7_set_179 : decode cX7_set 179 = .ok (.ifCond .lt 15, 3) := by decide +kernel
theorem dX7_set_182 : decode cX7_set 182 = .ok (.iload 6, 2) := by decide +kernel
theorem dX7_set_184 : decode cX7_set 184 = .ok (.ifCond .le 10, 3) := by decide +kernel
theorem dX7_set_187 : decode cX7_set 187 = .ok (.iload 5, 2) := by decide +kernel
theorem dX7_set_189 : decode cX7_set 189 = .ok (.iload 6, 2) := by decide +kernel
theorem dX7_set_191 : decode cX7_set 191 = .ok (.if_icmp .le 7, 3) := by decide +kernel
theorem dX7_set_194 : decode cX7_set 194 = .ok (.iconst 1, 1) := by decide +kernel
theorem dX7_set_195 : decode cX7_set 195 = .ok (.goto 4, 3) := by decide +kernel
theorem dX7_set_198 : decode cX7_set 198 = .ok (.iconst 0, 1) := by decide +kernel
theorem dX7_set_199 : decode cX7_set 199 = .ok (.putfield 117, 3) := by decide +kernel
theorem dX7_set_202 : decode cX7_set 202 = .ok (.iconst 1, 1) := by decide +kernel
theorem dX7_set_203 : decode cX7_set 203 = .ok (.istore_n 3, 1) := by decide +kernel
theorem dX7_set_204 : decode cX7_set 204 = .ok (.goto (-150), 3) := by decide +kernel
theorem dX7_set_207 : decode cX7_set 207 = .ok (.aload_n 0, 1) := by decide +kernel
theorem dX7_set_208 : decode cX7_set 208 = .ok (.bipush 6, 2) := by decide +kernel
theorem dX7_set_210 : decode cX7_set 210 = .ok (.iload_n 2, 1) := by decide +kernel
theorem dX7_set_211 : decode cX7_set 211 = .ok (.aload_n 0, 1) := by decide +kernel
theorem dX7_set_212 : decode cX7_set 212 = .ok (.getfield 139, 3) := by decide +kernel
theorem dX7_set_215 : decode cX7_set 215 = .ok (.iload_n 1, 1) := by decide +kernel
theorem dX7_set_216 : decode cX7_set 216 = .ok (.ifCond .eq 7, 3) := by decide +kernel
theorem dX7_set_219 : decode cX7_set 219 = .ok (.iconst 1, 1) := by decide +kernel
theorem dX7_set_220 : decode cX7_set 220 = .ok (.goto 4, 3) := by decide +kernel
theorem dX7_set_223 : decode cX7_set 223 = .ok (.iconst 0, 1) := by decide +kernel
theorem dX7_set_224 : decode cX7_set 224 = .ok (.invokevirtual 124, 3) := by decide +kernel
theorem dX7_set_227 : decode cX7_set 227 = .ok (.pop, 1) := by decide +kernel
theorem dX7_set_228 : decode cX7_set 228 = .ok (.aload_n 0, 1) := by decide +kernel
theorem dX7_set_229 : decode cX7_set 229 = .ok (.dup, 1) := by decide +kernel
theorem dX7_set_230 : decode cX7_set 230 = .ok (.getfield 139, 3) := by decide +kernel
theorem dX7_set_233 : decode cX7_set 233 = .ok (.iconst 1, 1) := by decide +kernel
theorem dX7_set_234 : decode cX7_set 234 = .ok (.iadd, 1) := by decide +kernel
theorem dX7_set_235 : decode cX7_set 235 = .ok (.putfield 139, 3) := by decide +kernel
theorem dX7_set_238 : decode cX7_set 238 = .ok (.return_, 1) := by decide +kernel
theorem dX7_escaped_0 : decode cX7_escaped 0 = .ok (.aload_n 0, 1) := by decide +kernel
theorem dX7_escaped_1 : decode cX7_escaped 1 = .ok (.aload_n 0, 1) := by decide +kernel
theorem dX7_escaped_2 : decode cX7_escaped 2 = .ok (.getfield 139, 3) := by decide +kernel
theorem dX7_escaped_5 : decode cX7_escaped 5 = .ok (.iconst 1, 1) := by decide +kernel
theorem dX7_escaped_6 : decode cX7_escaped 6 = .ok (.iadd, 1) := by decide +kernel
theorem dX7_escaped_7 : decode cX7_escaped 7 = .ok (.invokevirtual 142, 3) := by decide +kernel
theorem dX7_escaped_10 : decode cX7_escaped 10 = .ok (.istore_n 1, 1) := by decide +kernel
theorem dX7_escaped_11 : decode cX7_escaped 11 = .ok (.aload_n 0, 1) := by decide +kernel
theorem dX7_escaped_12 : decode cX7_escaped 12 = .ok (.dup, 1) := by decide +kernel
theorem dX7_escaped_13 : decode cX7_escaped 13 = .ok (.getfield 139, 3) := by decide +kernel
theorem dX7_escaped_16 : decode cX7_escaped 16 = .ok (.iconst 2, 1) := by decide +kernel
theorem dX7_escaped_17 : decode cX7_escaped 17 = .ok (.iadd, 1) := by decide +kernel
theorem dX7_escaped_18 : decode cX7_escaped 18 = .ok (.putfield 139, 3) := by decide +kernel
theorem dX7_escaped_21 : decode cX7_escaped 21 = .ok (.iload_n 1, 1) := by decide +kernel
theorem dX7_escaped_22 : decode cX7_escaped 22 = .ok (.invokestatic 165, 3) := by decide +kernel
theorem dX7_escaped_25 : decode cX7_escaped 25 = .ok (.ifCond .eq 15, 3) := by decide +kernel
theorem dX7_escaped_28 : decode cX7_escaped 28 = .ok (.aload_n 0, 1) := by decide +kernel
theorem dX7_escaped_29 : decode cX7_escaped 29 = .ok (.iconst 5, 1) := by decide +kernel
theorem dX7_escaped_30 : decode cX7_escaped 30 = .ok (.iload_n 1, 1) := by decide +kernel
theorem dX7_escaped_31 : decode cX7_escaped 31 = .ok (.iconst 0, 1) := by decide +kernel
theorem dX7_escaped_32 : decode cX7_escaped 32 = .ok (.iconst 0, 1) := by decide +kernel
theorem dX7_escaped_33 : decode cX7_escaped 33 = .ok (.invokevirtual 124, 3) := by decide +kernel
theorem dX7_escaped_36 : decode cX7_escaped 36 = .ok (.pop, 1) := by decide +kernel
theorem dX7_escaped_37 : decode cX7_escaped 37 = .ok (.goto 95, 3) := by decide +kernel
theorem dX7_escaped_40 : decode cX7_escaped 40 = .ok (.iload_n 1, 1) := by decide +kernel
theorem dX7_escaped_41 : decode cX7_escaped 41 = .ok (.bipush 49, 2) := by decide +kernel
theorem dX7_escaped_43 : decode cX7_escaped 43 = .ok (.if_icmp .lt 51, 3) := by decide +kernel
theorem dX7_escaped_46 : decode cX7_escaped 46 = .ok (.iload_n 1, 1) := by decide +kernel
theorem dX7_escaped_47 : decode cX7_escaped 47 = .ok (.bipush 57, 2) := by decide +kernel
theorem dX7_escaped_49 : decode cX7_escaped 49 = .ok (.if_icmp .gt 45, 3) := by decide +kernel
theorem dX7_escaped_52 : decode cX7_escaped 52 = .ok (.aload_n 0, 1) := by decide +kernel
theorem dX7_escaped_53 : decode cX7_escaped 53 = .ok (.iload_n 1, 1) := by decide +kernel
theorem dX7_escaped_54 : decode cX7_escaped 54 = .ok (.bipush 48, 2) := by decide +kernel
theorem dX7_escaped_56 : decode cX7_escaped 56 = .ok (.isub, 1) := by decide +kernel
theorem dX7_escaped_57 : decode cX7_escaped 57 = .ok (.aload_n 0, 1) := by decide +kernel
theorem dX7_escaped_58 : decode cX7_escaped 58 = .ok (.getfield 172, 3) := by decide +kernel
theorem dX7_escaped_61 : decode cX7_escaped 61 = .ok (.if_icmp .le 10, 3) := by decide +kernel
theorem dX7_escaped_64 : decode cX7_escaped 64 = .ok (.iload_n 1, 1) := by decide +kernel
theorem dX7_escaped_65 : decode cX7_escaped 65 = .ok (.bipush 48, 2) := by decide +kernel
theorem dX7_escaped_67 : decode cX7_escaped 67 = .ok (.isub, 1) := by decide +kernel
theorem dX7_escaped_68 : decode cX7_escaped 68 = .ok (.goto 7, 3) := by decide +kernel
theorem dX7_escaped_71 : decode cX7_escaped 71 = .ok (.aload_n 0, 1) := by decide +kernel
theorem dX7_escaped_72 : decode cX7_escaped 72 = .ok (.getfield 172, 3) := by decide +kernel
theorem dX7_escaped_75 : decode cX7_escaped 75 = .ok (.putfield 172, 3) := by decide +kernel
theorem dX7_escaped_78 : decode cX7_escaped 78 = .ok (.aload_n 0, 1) := by decide +kernel
theorem dX7_escaped_79 : decode cX7_escaped 79 = .ok (.bipush 7, 2) := by decide +kernel
theorem dX7_escaped_81 : decode cX7_escaped 81 = .ok (.iload_n 1, 1) := by decide +kernel
theorem dX7_escaped_82 : decode cX7_escaped 82 = .ok (.bipush 48, 2) := by decide +kernel
theorem dX7_escaped_84 : decode cX7_escaped 84 = .ok (.isub, 1) := by decide +kernel
theorem dX7_escaped_85 : decode cX7_escaped 85 = .ok (.iconst 0, 1) := by decide +kernel
theorem dX7_escaped_86 : decode cX7_escaped 86 = .ok (.iconst 0, 1) := by decide +kernel
theorem dX7_escaped_87 : decode cX7_escaped 87 = .ok (.invokevirtual 124, 3) := by decide +kernel
theorem dX7_escaped_90 : decode cX7_escaped 90 = .ok (.pop, 1) := by decide +kernel
theorem dX7_escaped_91 : decode cX7_escaped 91 = .ok (.goto 41, 3) := by decide +kernel
theorem dX7_escaped_94 : decode cX7_escaped 94 = .ok (.aload_n 0, 1) := by decide +kernel
theorem dX7_escaped_95 : decode cX7_escaped 95 = .ok (.aload_n 0, 1) := by decide +kernel
theorem dX7_escaped_96 : decode cX7_escaped 96 = .ok (.getfield 117, 3) := by decide +kernel
theorem dX7_escaped_99 : decode cX7_escaped 99 = .ok (.ifCond .ne 16, 3) := by decide +kernel
theorem dX7_escaped_102 : decode cX7_escaped 102 = .ok (.iload_n 1, 1) := by decide +kernel
theorem dX7_escaped_103 : decode cX7_escaped 103 = .ok (.invokestatic 162, 3) := by decide +kernel
theorem dX7_escaped_106 : decode cX7_escaped 106 = .ok (.ifCond .ne 13, 3) := by decide +kernel
theorem dX7_escaped_109 : decode cX7_escaped 109 = .ok (.iload_n 1, 1) := by decide +kernel
theorem dX7_escaped_110 : decode cX7_escaped 110 = .ok (.bipush 47, 2) := by decide +kernel
theorem dX7_escaped_112 : decode cX7_escaped 112 = .ok (.if_icmp .eq 7, 3) := by decide +kernel
theorem dX7_escaped_115 : decode cX7_escaped 115 = .ok (.iconst 1, 1) := by decide +kernel
theorem dX7_escaped_116 : decode cX7_escaped 116 = .ok (.goto 4, 3) := by decide +kernel
theorem dX7_escaped_119 : decode cX7_escaped 119 = .ok (.iconst 0, 1) := by decide +kernel
theorem dX7_escaped_120 : decode cX7_escaped 120 = .ok (.putfield 117, 3) := by decide +kernel
theorem dX7_escaped_123 : decode cX7_escaped 123 = .ok (.aload_n 0, 1) := by decide +kernel
theorem dX7_escaped_124 : decode cX7_escaped 124 = .ok (.iconst 3, 1) := by decide +kernel
theorem dX7_escaped_125 : decode cX7_escaped 125 = .ok (.iload_n 1, 1) := by decide +kernel
theorem dX7_escaped_126 : decode cX7_escaped 126 = .ok (.iconst 0, 1) := by decide +kernel
theorem dX7_escaped_127 : decode cX7_escaped 127 = .ok (.iconst 0, 1) := by decide +kernel
theorem dX7_escaped_128 : decode cX7_escaped 128 = .ok (.invokevirtual 124, 3) := by decide +kernel
theorem dX7_escaped_131 : decode cX7_escaped 131 = .ok (.pop, 1) := by decide +kernel
theorem dX7_escaped_132 : decode cX7_escaped 132 = .ok (.return_, 1) := by decide +kernel
theorem dX7_atom_0 : decode cX7_atom 0 = .ok (.aload_n 0, 1) := by decide +kernel
theorem dX7_atom_1 : decode cX7_atom 1 = .ok (.bipush 17, 2) := by decide +kernel
theorem dX7_atom_3 : decode cX7_atom 3 = .ok (.iconst 0, 1) := by decide +kernel
theorem dX7_atom_4 : decode cX7_atom 4 = .ok (.aload_n 0, 1) := by decide +kernel
theorem dX7_atom_5 : decode cX7_atom 5 = .ok (.getfield 153, 3) := by decide +kernel
theorem dX7_atom_8 : decode cX7_atom 8 = .ok (.iconst 0, 1) := by decide +kernel
theorem dX7_atom_9 : decode cX7_atom 9 = .ok (.invokevirtual 124, 3) := by decide +kernel
theorem dX7_atom_12 : decode cX7_atom 12 = .ok (.istore_n 1, 1) := by decide +kernel
theorem dX7_atom_13 : decode cX7_atom 13 = .ok (.aload_n 0, 1) := by decide +kernel
theorem dX7_atom_14 : decode cX7_atom 14 = .ok (.aload_n 0, 1) := by decide +kernel
theorem dX7_atom_15 : decode cX7_atom 15 = .ok (.getfield 139, 3) := by decide +kernel
theorem dX7_atom_18 : decode cX7_atom 18 = .ok (.invokevirtual 142, 3) := by decide +kernel
theorem dX7_atom_21 : decode cX7_atom 21 = .ok (.istore_n 2, 1) := by decide +kernel
theorem dX7_atom_22 : decode cX7_atom 22 = .ok (.iload_n 2, 1) := by decide +kernel
theorem dX7_atom_23 : decode cX7_atom 23 = .ok (.bipush 91, 2) := by decide +kernel
theorem dX7_atom_25 : decode cX7_atom 25 = .ok (.if_icmp .ne 10, 3) := by decide +kernel
theorem dX7_atom_28 : decode cX7_atom 28 = .ok (.aload_n 0, 1) := by decide +kernel
theorem dX7_atom_29 : decode cX7_atom 29 = .ok (.invokevirtual 175, 3) := by decide +kernel
theorem dX7_atom_32 : decode cX7_atom 32 = .ok (.goto 86, 3) := by decide +kernel
theorem dX7_atom_35 : decode cX7_atom 35 = .ok (.iload_n 2, 1) := by decide +kernel
theorem dX7_atom_36 : decode cX7_atom 36 = .ok (.bipush 92, 2) := by decide +kernel
theorem dX7_atom_38 : decode cX7_atom 38 = .ok (.if_icmp .ne 10, 3) := by decide +kernel
theorem dX7_atom_41 : decode cX7_atom 41 = .ok (.aload_n 0, 1) := by decide +kernel
theorem dX7_atom_42 : decode cX7_atom 42 = .ok (.invokevirtual 178, 3) := by decide +kernel
theorem dX7_atom_45 : decode cX7_atom 45 = .ok (.goto 73, 3) := by decide +kernel
theorem dX7_atom_48 : decode cX7_atom 48 = .ok (.iload_n 2, 1) := by decide +kernel
theorem dX7_atom_49 : decode cX7_atom 49 = .ok (.bipush 46, 2) := by decide +kernel
theorem dX7_atom_51 : decode cX7_atom 51 = .ok (.if_icmp .ne 25, 3) := by decide +kernel
theorem dX7_atom_54 : decode cX7_atom 54 = .ok (.aload_n 0, 1) := by decide +kernel
theorem dX7_atom_55 : decode cX7_atom 55 = .ok (.iconst 4, 1) := by decide +kernel
theorem dX7_atom_56 : decode cX7_atom 56 = .ok (.iconst 0, 1) := by decide +kernel
theorem dX7_atom_57 : decode cX7_atom 57 = .ok (.iconst 0, 1) := by decide +kernel
theorem dX7_atom_58 : decode cX7_atom 58 = .ok (.iconst 0, 1) := by decide +kernel
theorem dX7_atom_59 : decode cX7_atom 59 = .ok (.invokevirtual 124, 3) := by decide +kernel
theorem dX7_atom_62 : decode cX7_atom 62 = .ok (.pop, 1) := by decide +kernel
theorem dX7_atom_63 : decode cX7_atom 63 = .ok (.aload_n 0, 1) := by decide +kernel
theorem dX7_atom_64 : decode cX7_atom 64 = .ok (.dup, 1) := by decide +kernel
theorem dX7_atom_65 : decode cX7_atom 65 = .ok (.getfield 139, 3) := by decide +kernel
theorem dX7_atom_68 : decode cX7_atom 68 = .ok (.iconst 1, 1) := by decide +kernel
theorem dX7_atom_69 : decode cX7_atom 69 = .ok (.iadd, 1) := by decide +kernel
theorem dX7_atom_70 : decode cX7_atom 70 = .ok (.putfield 139, 3) := by decide +kernel
theorem dX7_atom_73 : decode cX7_atom 73 = .ok (.goto 45, 3) := by decide +kernel
theorem dX7_atom_76 : decode cX7_atom 76 = .ok (.aload_n 0, 1) := by decide +kernel
theorem dX7_atom_77 : decode cX7_atom 77 = .ok (.aload_n 0, 1) := by decide +kernel
theorem dX7_atom_78 : decode cX7_atom 78 = .ok (.getfield 117, 3) := by decide +kernel
theorem dX7_atom_81 : decode cX7_atom 81 = .ok (.ifCond .ne 10, 3) := by decide +kernel
theorem dX7_atom_84 : decode cX7_atom 84 = .ok (.iload_n 2, 1) := by decide +kernel
theorem dX7_atom_85 : decode cX7_atom 85 = .ok (.invokestatic 162, 3) := by decide +kernel
theorem dX7_atom_88 : decode cX7_atom 88 = .ok (.ifCond .eq 7, 3) := by decide +kernel
theorem dX7_atom_91 : decode cX7_atom 91 = .ok (.iconst 1, 1) := by decide +kernel
theorem dX7_atom_92 : decode cX7_atom 92 = .ok (.goto 4, 3) := by decide +kernel
theorem dX7_atom_95 : decode cX7_atom 95 = .ok (.iconst 0, 1) := by decide +kernel
theorem dX7_atom_96 : decode cX7_atom 96 = .ok (.putfield 117, 3) := by decide +kernel
theorem dX7_atom_99 : decode cX7_atom 99 = .ok (.aload_n 0, 1) := by decide +kernel
theorem dX7_atom_100 : decode cX7_atom 100 = .ok (.iconst 3, 1) := by decide +kernel
theorem dX7_atom_101 : decode cX7_atom 101 = .ok (.iload_n 2, 1) := by decide +kernel
theorem dX7_atom_102 : decode cX7_atom 102 = .ok (.iconst 0, 1) := by decide +kernel
theorem dX7_atom_103 : decode cX7_atom 103 = .ok (.iconst 0, 1) := by decide +kernel
theorem dX7_atom_104 : decode cX7_atom 104 = .ok (.invokevirtual 124, 3) := by decide +kernel
theorem dX7_atom_107 : decode cX7_atom 107 = .ok (.pop, 1) := by decide +kernel
theorem dX7_atom_108 : decode cX7_atom 108 = .ok (.aload_n 0, 1) := by decide +kernel
theorem dX7_atom_109 : decode cX7_atom 109 = .ok (.dup, 1) := by decide +kernel
theorem dX7_atom_110 : decode cX7_atom 110 = .ok (.getfield 139, 3) := by decide +kernel
theorem dX7_atom_113 : decode cX7_atom 113 = .ok (.iconst 1, 1) := by decide +kernel
theorem dX7_atom_114 : decode cX7_atom 114 = .ok (.iadd, 1) := by decide +kernel
theorem dX7_atom_115 : decode cX7_atom 115 = .ok (.putfield 139, 3) := by decide +kernel
theorem dX7_atom_118 : decode cX7_atom 118 = .ok (.aload_n 0, 1) := by decide +kernel
theorem dX7_atom_119 : decode cX7_atom 119 = .ok (.getfield 117, 3) := by decide +kernel
theorem dX7_atom_122 : decode cX7_atom 122 = .ok (.ifCond .ne 9, 3) := by decide +kernel
theorem dX7_atom_125 : decode cX7_atom 125 = .ok (.aload_n 0, 1) := by decide +kernel
theorem dX7_atom_126 : decode cX7_atom 126 = .ok (.iload_n 1, 1) := by decide +kernel
theorem dX7_atom_127 : decode cX7_atom 127 = .ok (.iconst 1, 1) := by decide +kernel
theorem dX7_atom_128 : decode cX7_atom 128 = .ok (.invokevirtual 135, 3) := by decide +kernel
theorem dX7_atom_131 : decode cX7_atom 131 = .ok (.return_, 1) := by decide +kernel
theorem dX7_reads_0 : decode cX7_reads 0 = .ok (.aload_n 0, 1) := by decide +kernel
theorem dX7_reads_1 : decode cX7_reads 1 = .ok (.iconst 0, 1) := by decide +kernel
theorem dX7_reads_2 : decode cX7_reads 2 = .ok (.putfield 114, 3) := by decide +kernel
theorem dX7_reads_5 : decode cX7_reads 5 = .ok (.aload_n 0, 1) := by decide +kernel
theorem dX7_reads_6 : decode cX7_reads 6 = .ok (.iconst 0, 1) := by decide +kernel
theorem dX7_reads_7 : decode cX7_reads 7 = .ok (.putfield 153, 3) := by decide +kernel
theorem dX7_reads_10 : decode cX7_reads 10 = .ok (.aload_n 0, 1) := by decide +kernel
theorem dX7_reads_11 : decode cX7_reads 11 = .ok (.iconst 0, 1) := by decide +kernel
theorem dX7_reads_12 : decode cX7_reads 12 = .ok (.putfield 150, 3) := by decide +kernel
theorem dX7_reads_15 : decode cX7_reads 15 = .ok (.aload_n 0, 1) := by decide +kernel
theorem dX7_reads_16 : decode cX7_reads 16 = .ok (.iconst 0, 1) := by decide +kernel
theorem dX7_reads_17 : decode cX7_reads 17 = .ok (.putfield 159, 3) := by decide +kernel
theorem dX7_reads_20 : decode cX7_reads 20 = .ok (.aload_n 0, 1) := by decide +kernel
theorem dX7_reads_21 : decode cX7_reads 21 = .ok (.iconst 0, 1) := by decide +kernel
theorem dX7_reads_22 : decode cX7_reads 22 = .ok (.putfield 172, 3) := by decide +kernel
theorem dX7_reads_25 : decode cX7_reads 25 = .ok (.aload_n 0, 1) := by decide +kernel
theorem dX7_reads_26 : decode cX7_reads 26 = .ok (.iconst 0, 1) := by decide +kernel
theorem dX7_reads_27 : decode cX7_reads 27 = .ok (.putfield 139, 3) := by decide +kernel
theorem dX7_reads_30 : decode cX7_reads 30 = .ok (.aload_n 0, 1) := by decide +kernel
theorem dX7_reads_31 : decode cX7_reads 31 = .ok (.iconst 0, 1) := by decide +kernel
theorem dX7_reads_32 : decode cX7_reads 32 = .ok (.putfield 117, 3) := by decide +kernel
theorem dX7_reads_35 : decode cX7_reads 35 = .ok (.aload_n 0, 1) := by decide +kernel
theorem dX7_reads_36 : decode cX7_reads 36 = .ok (.iconst 0, 1) := by decide +kernel
theorem dX7_reads_37 : decode cX7_reads 37 = .ok (.putfield 121, 3) := by decide +kernel
theorem dX7_reads_40 : decode cX7_reads 40 = .ok (.aload_n 0, 1) := by decide +kernel
theorem dX7_reads_41 : decode cX7_reads 41 = .ok (.iconst 0, 1) := by decide +kernel
theorem dX7_reads_42 : decode cX7_reads 42 = .ok (.iconst 0, 1) := by decide +kernel
theorem dX7_reads_43 : decode cX7_reads 43 = .ok (.invokevirtual 156, 3) := by decide +kernel
theorem dX7_reads_46 : decode cX7_reads 46 = .ok (.aload_n 0, 1) := by decide +kernel
theorem dX7_reads_47 : decode cX7_reads 47 = .ok (.getfield 117, 3) := by decide +kernel
theorem dX7_reads_50 : decode cX7_reads 50 = .ok (.ifCond .ne 165, 3) := by decide +kernel
theorem dX7_reads_53 : decode cX7_reads 53 = .ok (.aload_n 0, 1) := by decide +kernel
theorem dX7_reads_54 : decode cX7_reads 54 = .ok (.getfield 139, 3) := by decide +kernel
theorem dX7_reads_57 : decode cX7_reads 57 = .ok (.aload_n 0, 1) := by decide +kernel
theorem dX7_reads_58 : decode cX7_reads 58 = .ok (.getfield 86, 3) := by decide +kernel
theorem dX7_reads_61 : decode cX7_reads 61 = .ok (.if_icmp .ge 154, 3) := by decide +kernel
theorem dX7_reads_64 : decode cX7_reads 64 = .ok (.aload_n 0, 1) := by decide +kernel
theorem dX7_reads_65 : decode cX7_reads 65 = .ok (.aload_n 0, 1) := by decide +kernel
theorem dX7_reads_66 : decode cX7_reads 66 = .ok (.getfield 139, 3) := by decide +kernel
theorem dX7_reads_69 : decode cX7_reads 69 = .ok (.invokevirtual 142, 3) := by decide +kernel
theorem dX7_reads_72 : decode cX7_reads 72 = .ok (.istore_n 1, 1) := by decide +kernel
theorem dX7_reads_73 : decode cX7_reads 73 = .ok (.iload_n 1, 1) := by decide +kernel
theorem dX7_reads_74 : decode cX7_reads 74 = .ok (.bipush 124, 2) := by decide +kernel
theorem dX7_reads_76 : decode cX7_reads 76 = .ok (.if_icmp .ne 21, 3) := by decide +kernel
theorem dX7_reads_79 : decode cX7_reads 79 = .ok (.aload_n 0, 1) := by decide +kernel
theorem dX7_reads_80 : decode cX7_reads 80 = .ok (.iconst 1, 1) := by decide +kernel
theorem dX7_reads_81 : decode cX7_reads 81 = .ok (.invokevirtual 128, 3) := by decide +kernel
theorem dX7_reads_84 : decode cX7_reads 84 = .ok (.aload_n 0, 1) := by decide +kernel
theorem dX7_reads_85 : decode cX7_reads 85 = .ok (.dup, 1) := by decide +kernel
theorem dX7_reads_86 : decode cX7_reads 86 = .ok (.getfield 139, 3) := by decide +kernel
theorem dX7_reads_89 : decode cX7_reads 89 = .ok (.iconst 1, 1) := by decide +kernel
theorem dX7_reads_90 : decode cX7_reads 90 = .ok (.iadd, 1) := by decide +kernel
theorem dX7_reads_91 : decode cX7_reads 91 = .ok (.putfield 139, 3) := by decide +kernel
theorem dX7_reads_94 : decode cX7_reads 94 = .ok (.goto 118, 3) := by decide +kernel
theorem dX7_reads_97 : decode cX7_reads 97 = .ok (.iload_n 1, 1) := by decide +kernel
theorem dX7_reads_98 : decode cX7_reads 98 = .ok (.bipush 41, 2) := by decide +kernel
theorem dX7_reads_100 : decode cX7_reads 100 = .ok (.if_icmp .ne 44, 3) := by decide +kernel
theorem dX7_reads_103 : decode cX7_reads 103 = .ok (.aload_n 0, 1) := by decide +kernel
theorem dX7_reads_104 : decode cX7_reads 104 = .ok (.dup, 1) := by decide +kernel
theorem dX7_reads_105 : decode cX7_reads 105 = .ok (.getfield 139, 3) := by decide +kernel
theorem dX7_reads_108 : decode cX7_reads 108 = .ok (.iconst 1, 1) := by decide +kernel
theorem dX7_reads_109 : decode cX7_reads 109 = .ok (.iadd, 1) := by decide +kernel
theorem dX7_reads_110 : decode cX7_reads 110 = .ok (.putfield 139, 3) := by decide +kernel
theorem dX7_reads_113 : decode cX7_reads 113 = .ok (.aload_n 0, 1) := by decide +kernel
theorem dX7_reads_114 : decode cX7_reads 114 = .ok (.aload_n 0, 1) := by decide +kernel
theorem dX7_reads_115 : decode cX7_reads 115 = .ok (.getfield 121, 3) := by decide +kernel
theorem dX7_reads_118 : decode cX7_reads 118 = .ok (.iconst 1, 1) := by decide +kernel
theorem dX7_reads_119 : decode cX7_reads 119 = .ok (.if_icmp .ne 7, 3) := by decide +kernel
theorem dX7_reads_122 : decode cX7_reads 122 = .ok (.iconst 1, 1) := by decide +kernel
theorem dX7_reads_123 : decode cX7_reads 123 = .ok (.goto 4, 3) := by decide +kernel
theorem dX7_reads_126 : decode cX7_reads 126 = .ok (.iconst 0, 1) := by decide +kernel
theorem dX7_reads_127 : decode cX7_reads 127 = .ok (.putfield 117, 3) := by decide +kernel
theorem dX7_reads_130 : decode cX7_reads 130 = .ok (.aload_n 0, 1) := by decide +kernel
theorem dX7_reads_131 : decode cX7_reads 131 = .ok (.getfield 117, 3) := by decide +kernel
theorem dX7_reads_134 : decode cX7_reads 134 = .ok (.ifCond .ne 78, 3) := by decide +kernel
theorem dX7_reads_137 : decode cX7_reads 137 = .ok (.aload_n 0, 1) := by decide +kernel
theorem dX7_reads_138 : decode cX7_reads 138 = .ok (.invokevirtual 181, 3) := by decide +kernel
theorem dX7_reads_141 : decode cX7_reads 141 = .ok (.goto 71, 3) := by decide +kernel
theorem dX7_reads_144 : decode cX7_reads 144 = .ok (.iload_n 1, 1) := by decide +kernel
theorem dX7_reads_145 : decode cX7_reads 145 = .ok (.bipush 94, 2) := by decide +kernel
theorem dX7_reads_147 : decode cX7_reads 147 = .ok (.if_icmp .eq 9, 3) := by decide +kernel
theorem dX7_reads_150 : decode cX7_reads 150 = .ok (.iload_n 1, 1) := by decide +kernel
theorem dX7_reads_151 : decode cX7_reads 151 = .ok (.bipush 36, 2) := by decide +kernel
theorem dX7_reads_153 : decode cX7_reads 153 = .ok (.if_icmp .ne 42, 3) := by decide +kernel
theorem dX7_reads_156 : decode cX7_reads 156 = .ok (.aload_n 0, 1) := by decide +kernel
theorem dX7_reads_157 : decode cX7_reads 157 = .ok (.iload_n 1, 1) := by decide +kernel
theorem dX7_reads_158 : decode cX7_reads 158 = .ok (.bipush 94, 2) := by decide +kernel
theorem dX7_reads_160 : decode cX7_reads 160 = .ok (.if_icmp .ne 8, 3) := by decide +kernel
theorem dX7_reads_163 : decode cX7_reads 163 = .ok (.bipush 8, 2) := by decide +kernel
theorem dX7_reads_165 : decode cX7_reads 165 = .ok (.goto 5, 3) := by decide +kernel
theorem dX7_reads_168 : decode cX7_reads 168 = .ok (.bipush 9, 2) := by decide +kernel
theorem dX7_reads_170 : decode cX7_reads 170 = .ok (.iconst 0, 1) := by decide +kernel
theorem dX7_reads_171 : decode cX7_reads 171 = .ok (.iconst 0, 1) := by decide +kernel
theorem dX7_reads_172 : decode cX7_reads 172 = .ok (.iconst 0, 1) := by decide +kernel
theorem dX7_reads_173 : decode cX7_reads 173 = .ok (.invokevirtual 124, 3) := by decide +kernel
theorem dX7_reads_176 : decode cX7_reads 176 = .ok (.pop, 1) := by decide +kernel
theorem dX7_reads_177 : decode cX7_reads 177 = .ok (.aload_n 0, 1) := by decide +kernel
theorem dX7_reads_178 : decode cX7_reads 178 = .ok (.iconst 1, 1) := by decide +kernel
theorem dX7_reads_179 : decode cX7_reads 179 = .ok (.invokevirtual 132, 3) := by decide +kernel
theorem dX7_reads_182 : decode cX7_reads 182 = .ok (.aload_n 0, 1) := by decide +kernel
