theorem dL_isDone_286 : decode cL_isDone 286 = .ok (.dup2, 1) := by decide +kernel
theorem dL_isDone_287 : decode cL_isDone 287 = .ok (.iaload, 1) := by decide +kernel
theorem dL_isDone_288 : decode cL_isDone 288 = .ok (.iload 10, 2) := by decide +kernel
theorem dL_isDone_290 : decode cL_isDone 290 = .ok (.ifCond .eq 11, 3) := by decide +kernel
theorem dL_isDone_293 : decode cL_isDone 293 = .ok (.iload 7, 2) := by decide +kernel
theorem dL_isDone_295 : decode cL_isDone 295 = .ok (.bipush 103, 2) := by decide +kernel
theorem dL_isDone_297 : decode cL_isDone 297 = .ok (.irem, 1) := by decide +kernel
theorem dL_isDone_298 : decode cL_isDone 298 = .ok (.goto 4, 3) := by decide +kernel
theorem dL_isDone_301 : decode cL_isDone 301 = .ok (.iconst 0, 1) := by decide +kernel
theorem dL_isDone_302 : decode cL_isDone 302 = .ok (.iadd, 1) := by decide +kernel
theorem dL_isDone_303 : decode cL_isDone 303 = .ok (.iastore, 1) := by decide +kernel
theorem dL_isDone_304 : decode cL_isDone 304 = .ok (.aload_n 0, 1) := by decide +kernel
theorem dL_isDone_305 : decode cL_isDone 305 = .ok (.iconst 5, 1) := by decide +kernel
theorem dL_isDone_306 : decode cL_isDone 306 = .ok (.iload 7, 2) := by decide +kernel
theorem dL_isDone_308 : decode cL_isDone 308 = .ok (.bipush 103, 2) := by decide +kernel
theorem dL_isDone_310 : decode cL_isDone 310 = .ok (.irem, 1) := by decide +kernel
theorem dL_isDone_311 : decode cL_isDone 311 = .ok (.iconst 0, 1) := by decide +kernel
theorem dL_isDone_312 : decode cL_isDone 312 = .ok (.iconst 0, 1) := by decide +kernel
theorem dL_isDone_313 : decode cL_isDone 313 = .ok (.invokestatic 123, 3) := by decide +kernel
theorem dL_isDone_316 : decode cL_isDone 316 = .ok (.iload 10, 2) := by decide +kernel
theorem dL_isDone_318 : decode cL_isDone 318 = .ok (.ifCond .eq 11, 3) := by decide +kernel
theorem dL_isDone_321 : decode cL_isDone 321 = .ok (.aload 5, 2) := by decide +kernel
theorem dL_isDone_323 : decode cL_isDone 323 = .ok (.bipush 8, 2) := by decide +kernel
theorem dL_isDone_325 : decode cL_isDone 325 = .ok (.iaload, 1) := by decide +kernel
theorem dL_isDone_326 : decode cL_isDone 326 = .ok (.goto 5, 3) := by decide +kernel
theorem dL_isDone_329 : decode cL_isDone 329 = .ok (.bipush (-20), 2) := by decide +kernel
theorem dL_isDone_331 : decode cL_isDone 331 = .ok (.if_icmp .ne 7, 3) := by decide +kernel
theorem dL_isDone_334 : decode cL_isDone 334 = .ok (.iconst 1, 1) := by decide +kernel
theorem dL_isDone_335 : decode cL_isDone 335 = .ok (.goto 4, 3) := by decide +kernel
theorem dL_isDone_338 : decode cL_isDone 338 = .ok (.iconst 0, 1) := by decide +kernel
theorem dL_isDone_339 : decode cL_isDone 339 = .ok (.ireturn, 1) := by decide +kernel
theorem dL_isDone_340 : decode cL_isDone 340 = .ok (.iload 6, 2) := by decide +kernel
theorem dL_isDone_342 : decode cL_isDone 342 = .ok (.bipush 36, 2) := by decide +kernel
theorem dL_isDone_344 : decode cL_isDone 344 = .ok (.if_icmp .ne 12, 3) := by decide +kernel
theorem dL_isDone_347 : decode cL_isDone 347 = .ok (.aload_n 0, 1) := by decide +kernel
theorem dL_isDone_348 : decode cL_isDone 348 = .ok (.aload 4, 2) := by decide +kernel
theorem dL_isDone_350 : decode cL_isDone 350 = .ok (.aload 5, 2) := by decide +kernel
theorem dL_isDone_352 : decode cL_isDone 352 = .ok (.invokestatic 146, 3) := by decide +kernel
theorem dL_isDone_355 : decode cL_isDone 355 = .ok (.ireturn, 1) := by decide +kernel
theorem dL_isDone_356 : decode cL_isDone 356 = .ok (.iload 6, 2) := by decide +kernel
theorem dL_isDone_358 : decode cL_isDone 358 = .ok (.bipush 37, 2) := by decide +kernel
theorem dL_isDone_360 : decode cL_isDone 360 = .ok (.if_icmp .ne 68, 3) := by decide +kernel
theorem dL_isDone_363 : decode cL_isDone 363 = .ok (.aload 5, 2) := by decide +kernel
theorem dL_isDone_365 : decode cL_isDone 365 = .ok (.bipush 7, 2) := by decide +kernel
theorem dL_isDone_367 : decode cL_isDone 367 = .ok (.iaload, 1) := by decide +kernel
theorem dL_isDone_368 : decode cL_isDone 368 = .ok (.istore 10, 2) := by decide +kernel
theorem dL_isDone_370 : decode cL_isDone 370 = .ok (.aload 5, 2) := by decide +kernel
theorem dL_isDone_372 : decode cL_isDone 372 = .ok (.bipush 7, 2) := by decide +kernel
theorem dL_isDone_374 : decode cL_isDone 374 = .ok (.iload 7, 2) := by decide +kernel
theorem dL_isDone_376 : decode cL_isDone 376 = .ok (.iconst 5, 1) := by decide +kernel
theorem dL_isDone_377 : decode cL_isDone 377 = .ok (.irem, 1) := by decide +kernel
theorem dL_isDone_378 : decode cL_isDone 378 = .ok (.iconst 4, 1) := by decide +kernel
theorem dL_isDone_379 : decode cL_isDone 379 = .ok (.if_icmp .ge 10, 3) := by decide +kernel
theorem dL_isDone_382 : decode cL_isDone 382 = .ok (.iload 7, 2) := by decide +kernel
theorem dL_isDone_384 : decode cL_isDone 384 = .ok (.iconst 5, 1) := by decide +kernel
theorem dL_isDone_385 : decode cL_isDone 385 = .ok (.irem, 1) := by decide +kernel
theorem dL_isDone_386 : decode cL_isDone 386 = .ok (.goto 5, 3) := by decide +kernel
theorem dL_isDone_389 : decode cL_isDone 389 = .ok (.iload 10, 2) := by decide +kernel
theorem dL_isDone_391 : decode cL_isDone 391 = .ok (.iastore, 1) := by decide +kernel
theorem dL_isDone_392 : decode cL_isDone 392 = .ok (.aload_n 0, 1) := by decide +kernel
theorem dL_isDone_393 : decode cL_isDone 393 = .ok (.bipush 9, 2) := by decide +kernel
theorem dL_isDone_395 : decode cL_isDone 395 = .ok (.iload 7, 2) := by decide +kernel
theorem dL_isDone_397 : decode cL_isDone 397 = .ok (.iconst 5, 1) := by decide +kernel
theorem dL_isDone_398 : decode cL_isDone 398 = .ok (.irem, 1) := by decide +kernel
theorem dL_isDone_399 : decode cL_isDone 399 = .ok (.iconst 0, 1) := by decide +kernel
theorem dL_isDone_400 : decode cL_isDone 400 = .ok (.iconst 0, 1) := by decide +kernel
theorem dL_isDone_401 : decode cL_isDone 401 = .ok (.invokestatic 123, 3) := by decide +kernel
theorem dL_isDone_404 : decode cL_isDone 404 = .ok (.iload 7, 2) := by decide +kernel
theorem dL_isDone_406 : decode cL_isDone 406 = .ok (.iconst 5, 1) := by decide +kernel
theorem dL_isDone_407 : decode cL_isDone 407 = .ok (.irem, 1) := by decide +kernel
theorem dL_isDone_408 : decode cL_isDone 408 = .ok (.iconst 4, 1) := by decide +kernel
theorem dL_isDone_409 : decode cL_isDone 409 = .ok (.if_icmp .ge 8, 3) := by decide +kernel
theorem dL_isDone_412 : decode cL_isDone 412 = .ok (.iload 10, 2) := by decide +kernel
theorem dL_isDone_414 : decode cL_isDone 414 = .ok (.goto 5, 3) := by decide +kernel
theorem dL_isDone_417 : decode cL_isDone 417 = .ok (.bipush (-20), 2) := by decide +kernel
theorem dL_isDone_419 : decode cL_isDone 419 = .ok (.if_icmp .ne 7, 3) := by decide +kernel
theorem dL_isDone_422 : decode cL_isDone 422 = .ok (.iconst 1, 1) := by decide +kernel
theorem dL_isDone_423 : decode cL_isDone 423 = .ok (.goto 4, 3) := by decide +kernel
theorem dL_isDone_426 : decode cL_isDone 426 = .ok (.iconst 0, 1) := by decide +kernel
theorem dL_isDone_427 : decode cL_isDone 427 = .ok (.ireturn, 1) := by decide +kernel
theorem dL_isDone_428 : decode cL_isDone 428 = .ok (.aload_n 0, 1) := by decide +kernel
theorem dL_isDone_429 : decode cL_isDone 429 = .ok (.iload 7, 2) := by decide +kernel
theorem dL_isDone_431 : decode cL_isDone 431 = .ok (.iload 8, 2) := by decide +kernel
theorem dL_isDone_433 : decode cL_isDone 433 = .ok (.imul, 1) := by decide +kernel
theorem dL_isDone_434 : decode cL_isDone 434 = .ok (.ldc 150, 2) := by decide +kernel
theorem dL_isDone_436 : decode cL_isDone 436 = .ok (.isub, 1) := by decide +kernel
theorem dL_isDone_437 : decode cL_isDone 437 = .ok (.invokevirtual 151, 3) := by decide +kernel
theorem dL_isDone_440 : decode cL_isDone 440 = .ok (.iload 6, 2) := by decide +kernel
theorem dL_isDone_442 : decode cL_isDone 442 = .ok (.bipush 38, 2) := by decide +kernel
theorem dL_isDone_444 : decode cL_isDone 444 = .ok (.if_icmp .eq 24, 3) := by decide +kernel
theorem dL_isDone_447 : decode cL_isDone 447 = .ok (.aload_n 0, 1) := by decide +kernel
theorem dL_isDone_448 : decode cL_isDone 448 = .ok (.aload 4, 2) := by decide +kernel
theorem dL_isDone_450 : decode cL_isDone 450 = .ok (.aload 5, 2) := by decide +kernel
theorem dL_isDone_452 : decode cL_isDone 452 = .ok (.iload 7, 2) := by decide +kernel
theorem dL_isDone_454 : decode cL_isDone 454 = .ok (.aload 5, 2) := by decide +kernel
theorem dL_isDone_456 : decode cL_isDone 456 = .ok (.iconst 2, 1) := by decide +kernel
theorem dL_isDone_457 : decode cL_isDone 457 = .ok (.iaload, 1) := by decide +kernel
theorem dL_isDone_458 : decode cL_isDone 458 = .ok (.iconst 1, 1) := by decide +kernel
theorem dL_isDone_459 : decode cL_isDone 459 = .ok (.iadd, 1) := by decide +kernel
theorem dL_isDone_460 : decode cL_isDone 460 = .ok (.irem, 1) := by decide +kernel
theorem dL_isDone_461 : decode cL_isDone 461 = .ok (.iconst 0, 1) := by decide +kernel
theorem dL_isDone_462 : decode cL_isDone 462 = .ok (.invokestatic 142, 3) := by decide +kernel
theorem dL_isDone_465 : decode cL_isDone 465 = .ok (.ifCond .eq 7, 3) := by decide +kernel
theorem dL_isDone_468 : decode cL_isDone 468 = .ok (.iconst 1, 1) := by decide +kernel
theorem dL_isDone_469 : decode cL_isDone 469 = .ok (.goto 4, 3) := by decide +kernel
theorem dL_isDone_472 : decode cL_isDone 472 = .ok (.iconst 0, 1) := by decide +kernel
theorem dL_isDone_473 : decode cL_isDone 473 = .ok (.ireturn, 1) := by decide +kernel
set_option maxRecDepth 20000 in
theorem ggL_law_X5_init : GoodIn wsL_law wsX5_init := goodIn_r _ [6, 7, 8, 9, 10, 11, 12, 13, 14, 15, 16, 17, 18, 19, 20, 21, 22, 23, 24, 25, 26, 27, 28, 29, 30, 3, 31, 32, 33, 34, 35, 36, 37, 38, 39, 40, 41, 42, 43, 44, 45, 46, 47, 48, 49, 50, 51, 52, 53, 54, 55, 56, 57, 58, 59, 60, 61, 62, 63, 64, 65, 66, 67, 68, 69, 70, 71, 72, 73, 74, 75, 76, 77, 78, 79, 80, 81, 82, 83, 84, 85, 549, 550, 551, 552, 539, 540, 541, 542, 543, 544, 545, 546, 547, 548, 553, 554, 555, 556, 557, 558, 559, 560, 561, 562, 563, 564, 565, 566, 567, 568, 569, 570, 571, 572, 573, 574] (by decide +kernel) (by decide +kernel)
set_option maxRecDepth 20000 in
theorem gL_law_X5_init : GoodIn wsL_law (wsX5_init) := ggL_law_X5_init
set_option maxRecDepth 20000 in
theorem ggL_law_L_part : GoodIn wsL_law wsL_part := goodIn_r _ [359, 360] (by decide +kernel) (by decide +kernel)
set_option maxRecDepth 20000 in
theorem gL_law_L_part : GoodIn wsL_law (va_wsS RL 127 yL_part wsL_part) := goodIn_app (goodIn_of _ (by decide +kernel)) ggL_law_L_part
set_option maxRecDepth 20000 in
theorem ggL_law_X5_addGate : GoodIn wsL_law wsX5_addGate := goodIn_ca (goodIn_r _ [364, 133, 134, 13, 365, 366, 367, 2, 368, 33, 30, 279, 280, 281, 29, 282, 84, 369, 370, 371, 12, 372, 41, 373, 374, 375, 376, 40, 42, 539, 540, 541, 542, 543, 544, 545, 546, 547, 548, 571, 572, 573, 574, 549, 550, 551, 552] (by decide +kernel) (by decide +kernel)) (goodIn_sub (fun _ h => List.mem_append_left _ (List.mem_append_right _ h)) (by decide +kernel))
set_option maxRecDepth 20000 in
theorem gL_law_X5_addGate : GoodIn wsL_law (wsV RL 8 RX5 yX5_addGate wsX5_addGate) := goodIn_app (goodIn_of _ (by decide +kernel)) ggL_law_X5_addGate
set_option maxRecDepth 20000 in
theorem ggL_law_X5_addWay : GoodIn wsL_law wsX5_addWay := goodIn_ca (goodIn_ca (goodIn_ca (goodIn_r _ [380, 381, 382, 13, 111, 112, 113, 2, 114, 115, 116, 94, 95, 96, 12, 97, 41, 365, 366, 367, 368, 133, 134, 33, 30, 279, 280, 281, 29, 282, 84, 383, 210, 211, 212, 39, 384, 385, 386, 387, 388, 389, 390, 391, 40, 392, 393, 394, 395, 396, 243, 244, 245, 397, 206, 207, 208, 209, 539, 540, 541, 542, 543, 544, 545, 546, 547, 548, 549, 550, 551, 552, 571, 572, 573, 574] (by decide +kernel) (by decide +kernel)) (goodIn_sub (fun _ h => List.mem_append_right _ h) (by decide +kernel))) (goodIn_sub (fun _ h => List.mem_append_left _ (List.mem_append_left _ (List.mem_append_right _ h))) (by decide +kernel))) (goodIn_sub (fun _ h => List.mem_append_left _ (List.mem_append_right _ h)) (by decide +kernel))
set_option maxRecDepth 20000 in
theorem gL_law_X5_addWay : GoodIn wsL_law (wsV RL 14 RX5 yX5_addWay wsX5_addWay) := goodIn_app (goodIn_of _ (by decide +kernel)) ggL_law_X5_addWay
set_option maxRecDepth 20000 in
theorem ggL_law_X5_addKart : GoodIn wsL_law wsX5_addKart := goodIn_ca (goodIn_ca (goodIn_r _ [401, 133, 134, 32, 31, 303, 304, 305, 2, 306, 115, 116, 365, 366, 367, 368, 33, 30, 279, 280, 281, 29, 282, 84, 539, 540, 541, 542, 543, 544, 545, 546, 547, 548, 571, 572, 573, 574] (by decide +kernel) (by decide +kernel)) (goodIn_sub (fun _ h => List.mem_append_left _ (List.mem_append_right _ h)) (by decide +kernel))) (goodIn_sub (fun _ h => List.mem_append_left _ (List.mem_append_left _ (List.mem_append_right _ h))) (by decide +kernel))
set_option maxRecDepth 20000 in
theorem gL_law_X5_addKart : GoodIn wsL_law (wsV RL 18 RX5 yX5_addKart wsX5_addKart) := goodIn_app (goodIn_of _ (by decide +kernel)) ggL_law_X5_addKart
theorem dL_law_0 : decode cL_law 0 = .ok (.new 9, 3) := by decide +kernel
theorem dL_law_3 : decode cL_law 3 = .ok (.dup, 1) := by decide +kernel
theorem dL_law_4 : decode cL_law 4 = .ok (.invokespecial 155, 3) := by decide +kernel
theorem dL_law_7 : decode cL_law 7 = .ok (.astore_n 1, 1) := by decide +kernel
theorem dL_law_8 : decode cL_law 8 = .ok (.bipush 60, 2) := by decide +kernel
theorem dL_law_10 : decode cL_law 10 = .ok (.newarray .int, 2) := by decide +kernel
theorem dL_law_12 : decode cL_law 12 = .ok (.astore_n 2, 1) := by decide +kernel
theorem dL_law_13 : decode cL_law 13 = .ok (.bipush 36, 2) := by decide +kernel
theorem dL_law_15 : decode cL_law 15 = .ok (.newarray .int, 2) := by decide +kernel
theorem dL_law_17 : decode cL_law 17 = .ok (.astore_n 3, 1) := by decide +kernel
theorem dL_law_18 : decode cL_law 18 = .ok (.bipush 9, 2) := by decide +kernel
theorem dL_law_20 : decode cL_law 20 = .ok (.newarray .int, 2) := by decide +kernel
theorem dL_law_22 : decode cL_law 22 = .ok (.astore 4, 2) := by decide +kernel
theorem dL_law_24 : decode cL_law 24 = .ok (.aload 4, 2) := by decide +kernel
theorem dL_law_26 : decode cL_law 26 = .ok (.iconst 0, 1) := by decide +kernel
theorem dL_law_27 : decode cL_law 27 = .ok (.iconst 1, 1) := by decide +kernel
theorem dL_law_28 : decode cL_law 28 = .ok (.iastore, 1) := by decide +kernel
theorem dL_law_29 : decode cL_law 29 = .ok (.aload_n 1, 1) := by decide +kernel
theorem dL_law_30 : decode cL_law 30 = .ok (.aload_n 2, 1) := by decide +kernel
theorem dL_law_31 : decode cL_law 31 = .ok (.aload 4, 2) := by decide +kernel
theorem dL_law_33 : decode cL_law 33 = .ok (.invokestatic 156, 3) := by decide +kernel
theorem dL_law_36 : decode cL_law 36 = .ok (.ifCond .eq 27, 3) := by decide +kernel
theorem dL_law_39 : decode cL_law 39 = .ok (.aload_n 1, 1) := by decide +kernel
theorem dL_law_40 : decode cL_law 40 = .ok (.aload_n 3, 1) := by decide +kernel
theorem dL_law_41 : decode cL_law 41 = .ok (.aload 4, 2) := by decide +kernel
theorem dL_law_43 : decode cL_law 43 = .ok (.invokestatic 159, 3) := by decide +kernel
theorem dL_law_46 : decode cL_law 46 = .ok (.ifCond .eq 17, 3) := by decide +kernel
theorem dL_law_49 : decode cL_law 49 = .ok (.aload_n 1, 1) := by decide +kernel
theorem dL_law_50 : decode cL_law 50 = .ok (.aload_n 3, 1) := by decide +kernel
theorem dL_law_51 : decode cL_law 51 = .ok (.aload 4, 2) := by decide +kernel
theorem dL_law_53 : decode cL_law 53 = .ok (.invokestatic 162, 3) := by decide +kernel
theorem dL_law_56 : decode cL_law 56 = .ok (.ifCond .eq 7, 3) := by decide +kernel
theorem dL_law_59 : decode cL_law 59 = .ok (.iconst 1, 1) := by decide +kernel
theorem dL_law_60 : decode cL_law 60 = .ok (.goto 4, 3) := by decide +kernel
theorem dL_law_63 : decode cL_law 63 = .ok (.iconst 0, 1) := by decide +kernel
theorem dL_law_64 : decode cL_law 64 = .ok (.istore 5, 2) := by decide +kernel
theorem dL_law_66 : decode cL_law 66 = .ok (.aload_n 0, 1) := by decide +kernel
theorem dL_law_67 : decode cL_law 67 = .ok (.iconst 0, 1) := by decide +kernel
theorem dL_law_68 : decode cL_law 68 = .ok (.iconst 3, 1) := by decide +kernel
theorem dL_law_69 : decode cL_law 69 = .ok (.invokestatic 127, 3) := by decide +kernel
theorem dL_law_72 : decode cL_law 72 = .ok (.ifCond .le 192, 3) := by decide +kernel
theorem dL_law_75 : decode cL_law 75 = .ok (.iload 5, 2) := by decide +kernel
theorem dL_law_77 : decode cL_law 77 = .ok (.ifCond .eq 187, 3) := by decide +kernel
theorem dL_law_80 : decode cL_law 80 = .ok (.iconst 1, 1) := by decide +kernel
theorem dL_law_81 : decode cL_law 81 = .ok (.aload_n 0, 1) := by decide +kernel
theorem dL_law_82 : decode cL_law 82 = .ok (.iconst 1, 1) := by decide +kernel
theorem dL_law_83 : decode cL_law 83 = .ok (.iconst 4, 1) := by decide +kernel
theorem dL_law_84 : decode cL_law 84 = .ok (.invokestatic 127, 3) := by decide +kernel
theorem dL_law_87 : decode cL_law 87 = .ok (.iadd, 1) := by decide +kernel
theorem dL_law_88 : decode cL_law 88 = .ok (.istore 6, 2) := by decide +kernel
theorem dL_law_90 : decode cL_law 90 = .ok (.iconst 1, 1) := by decide +kernel
theorem dL_law_91 : decode cL_law 91 = .ok (.istore 7, 2) := by decide +kernel
theorem dL_law_93 : decode cL_law 93 = .ok (.iload 7, 2) := by decide +kernel
theorem dL_law_95 : decode cL_law 95 = .ok (.iload 6, 2) := by decide +kernel
theorem dL_law_97 : decode cL_law 97 = .ok (.if_icmp .gt 108, 3) := by decide +kernel
theorem dL_law_100 : decode cL_law 100 = .ok (.iload 5, 2) := by decide +kernel
theorem dL_law_102 : decode cL_law 102 = .ok (.ifCond .eq 103, 3) := by decide +kernel
theorem dL_law_105 : decode cL_law 105 = .ok (.aload 4, 2) := by decide +kernel
theorem dL_law_107 : decode cL_law 107 = .ok (.iconst 1, 1) := by decide +kernel
theorem dL_law_108 : decode cL_law 108 = .ok (.dup2, 1) := by decide +kernel
theorem dL_law_109 : decode cL_law 109 = .ok (.iaload, 1) := by decide +kernel
theorem dL_law_110 : decode cL_law 110 = .ok (.iconst 1, 1) := by decide +kernel
theorem dL_law_111 : decode cL_law 111 = .ok (.iload 7, 2) := by decide +kernel
theorem dL_law_113 : decode cL_law 113 = .ok (.ishl, 1) := by decide +kernel
theorem dL_law_114 : decode cL_law 114 = .ok (.ior, 1) := by decide +kernel
theorem dL_law_115 : decode cL_law 115 = .ok (.iastore, 1) := by decide +kernel
theorem dL_law_116 : decode cL_law 116 = .ok (.aload 4, 2) := by decide +kernel
theorem dL_law_118 : decode cL_law 118 = .ok (.iconst 0, 1) := by decide +kernel
theorem dL_law_119 : decode cL_law 119 = .ok (.dup2, 1) := by decide +kernel
theorem dL_law_120 : decode cL_law 120 = .ok (.iaload, 1) := by decide +kernel
theorem dL_law_121 : decode cL_law 121 = .ok (.iconst 1, 1) := by decide +kernel
theorem dL_law_122 : decode cL_law 122 = .ok (.iadd, 1) := by decide +kernel
theorem dL_law_123 : decode cL_law 123 = .ok (.iastore, 1) := by decide +kernel
theorem dL_law_124 : decode cL_law 124 = .ok (.aload_n 2, 1) := by decide +kernel
theorem dL_law_125 : decode cL_law 125 = .ok (.bipush 12, 2) := by decide +kernel
theorem dL_law_127 : decode cL_law 127 = .ok (.iload 7, 2) := by decide +kernel
theorem dL_law_129 : decode cL_law 129 = .ok (.iconst 1, 1) := by decide +kernel
theorem dL_law_130 : decode cL_law 130 = .ok (.isub, 1) := by decide +kernel
theorem dL_law_131 : decode cL_law 131 = .ok (.imul, 1) := by decide +kernel
theorem dL_law_132 : decode cL_law 132 = .ok (.iload 7, 2) := by decide +kernel
theorem dL_law_134 : decode cL_law 134 = .ok (.iadd, 1) := by decide +kernel
theorem dL_law_135 : decode cL_law 135 = .ok (.bipush 10, 2) := by decide +kernel
theorem dL_law_137 : decode cL_law 137 = .ok (.iload 7, 2) := by decide +kernel
theorem dL_law_139 : decode cL_law 139 = .ok (.iadd, 1) := by decide +kernel
theorem dL_law_140 : decode cL_law 140 = .ok (.iastore, 1) := by decide +kernel
theorem dL_law_141 : decode cL_law 141 = .ok (.aload_n 2, 1) := by decide +kernel
theorem dL_law_142 : decode cL_law 142 = .ok (.bipush 12, 2) := by decide +kernel
theorem dL_law_144 : decode cL_law 144 = .ok (.iload 7, 2) := by decide +kernel
theorem dL_law_146 : decode cL_law 146 = .ok (.imul, 1) := by decide +kernel
theorem dL_law_147 : decode cL_law 147 = .ok (.bipush 40, 2) := by decide +kernel
theorem dL_law_149 : decode cL_law 149 = .ok (.iastore, 1) := by decide +kernel
theorem dL_law_150 : decode cL_law 150 = .ok (.aload_n 1, 1) := by decide +kernel
theorem dL_law_151 : decode cL_law 151 = .ok (.iconst 1, 1) := by decide +kernel
theorem dL_law_152 : decode cL_law 152 = .ok (.invokevirtual 8, 3) := by decide +kernel
theorem dL_law_155 : decode cL_law 155 = .ok (.iload 7, 2) := by decide +kernel
theorem dL_law_157 : decode cL_law 157 = .ok (.if_icmp .ne 39, 3) := by decide +kernel
theorem dL_law_160 : decode cL_law 160 = .ok (.aload_n 1, 1) := by decide +kernel
theorem dL_law_161 : decode cL_law 161 = .ok (.iload 7, 2) := by decide +kernel
theorem dL_law_163 : decode cL_law 163 = .ok (.iconst 1, 1) := by decide +kernel
theorem dL_law_164 : decode cL_law 164 = .ok (.isub, 1) := by decide +kernel
theorem dL_law_165 : decode cL_law 165 = .ok (.iload 7, 2) := by decide +kernel
theorem dL_law_167 : decode cL_law 167 = .ok (.bipush 10, 2) := by decide +kernel
theorem dL_law_169 : decode cL_law 169 = .ok (.iload 7, 2) := by decide +kernel
theorem dL_law_171 : decode cL_law 171 = .ok (.iadd, 1) := by decide +kernel
theorem dL_law_172 : decode cL_law 172 = .ok (.invokevirtual 14, 3) := by decide +kernel
theorem dL_law_175 : decode cL_law 175 = .ok (.iconst (-1), 1) := by decide +kernel
theorem dL_law_176 : decode cL_law 176 = .ok (.if_icmp .ne 20, 3) := by decide +kernel
theorem dL_law_179 : decode cL_law 179 = .ok (.aload_n 1, 1) := by decide +kernel
theorem dL_law_180 : decode cL_law 180 = .ok (.iload 7, 2) := by decide +kernel
theorem dL_law_182 : decode cL_law 182 = .ok (.iconst 0, 1) := by decide +kernel
theorem dL_law_183 : decode cL_law 183 = .ok (.bipush 40, 2) := by decide +kernel
theorem dL_law_185 : decode cL_law 185 = .ok (.invokevirtual 14, 3) := by decide +kernel
theorem dL_law_188 : decode cL_law 188 = .ok (.iconst (-1), 1) := by decide +kernel
theorem dL_law_189 : decode cL_law 189 = .ok (.if_icmp .ne 7, 3) := by decide +kernel
