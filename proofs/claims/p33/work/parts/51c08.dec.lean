theorem dL_isPassed_316 : decode cL_isPassed 316 = .ok (.dup2, 1) := by decide +kernel
theorem dL_isPassed_317 : decode cL_isPassed 317 = .ok (.iaload, 1) := by decide +kernel
theorem dL_isPassed_318 : decode cL_isPassed 318 = .ok (.iconst 1, 1) := by decide +kernel
theorem dL_isPassed_319 : decode cL_isPassed 319 = .ok (.isub, 1) := by decide +kernel
theorem dL_isPassed_320 : decode cL_isPassed 320 = .ok (.iastore, 1) := by decide +kernel
theorem dL_isPassed_321 : decode cL_isPassed 321 = .ok (.iload 11, 2) := by decide +kernel
theorem dL_isPassed_323 : decode cL_isPassed 323 = .ok (.iconst 4, 1) := by decide +kernel
theorem dL_isPassed_324 : decode cL_isPassed 324 = .ok (.if_icmp .ne 7, 3) := by decide +kernel
theorem dL_isPassed_327 : decode cL_isPassed 327 = .ok (.iconst 1, 1) := by decide +kernel
theorem dL_isPassed_328 : decode cL_isPassed 328 = .ok (.goto 4, 3) := by decide +kernel
theorem dL_isPassed_331 : decode cL_isPassed 331 = .ok (.iconst 0, 1) := by decide +kernel
theorem dL_isPassed_332 : decode cL_isPassed 332 = .ok (.ireturn, 1) := by decide +kernel
theorem dL_isPassed_333 : decode cL_isPassed 333 = .ok (.aload_n 2, 1) := by decide +kernel
theorem dL_isPassed_334 : decode cL_isPassed 334 = .ok (.iload 7, 2) := by decide +kernel
theorem dL_isPassed_336 : decode cL_isPassed 336 = .ok (.iconst 2, 1) := by decide +kernel
theorem dL_isPassed_337 : decode cL_isPassed 337 = .ok (.iadd, 1) := by decide +kernel
theorem dL_isPassed_338 : decode cL_isPassed 338 = .ok (.dup2, 1) := by decide +kernel
theorem dL_isPassed_339 : decode cL_isPassed 339 = .ok (.iaload, 1) := by decide +kernel
theorem dL_isPassed_340 : decode cL_isPassed 340 = .ok (.iload 12, 2) := by decide +kernel
theorem dL_isPassed_342 : decode cL_isPassed 342 = .ok (.ifCond .eq 7, 3) := by decide +kernel
theorem dL_isPassed_345 : decode cL_isPassed 345 = .ok (.iconst 1, 1) := by decide +kernel
theorem dL_isPassed_346 : decode cL_isPassed 346 = .ok (.goto 4, 3) := by decide +kernel
theorem dL_isPassed_349 : decode cL_isPassed 349 = .ok (.iconst 0, 1) := by decide +kernel
theorem dL_isPassed_350 : decode cL_isPassed 350 = .ok (.iadd, 1) := by decide +kernel
theorem dL_isPassed_351 : decode cL_isPassed 351 = .ok (.iastore, 1) := by decide +kernel
theorem dL_isPassed_352 : decode cL_isPassed 352 = .ok (.aload_n 2, 1) := by decide +kernel
theorem dL_isPassed_353 : decode cL_isPassed 353 = .ok (.iload 7, 2) := by decide +kernel
theorem dL_isPassed_355 : decode cL_isPassed 355 = .ok (.iconst 5, 1) := by decide +kernel
theorem dL_isPassed_356 : decode cL_isPassed 356 = .ok (.iadd, 1) := by decide +kernel
theorem dL_isPassed_357 : decode cL_isPassed 357 = .ok (.iload 12, 2) := by decide +kernel
theorem dL_isPassed_359 : decode cL_isPassed 359 = .ok (.ifCond .eq 19, 3) := by decide +kernel
theorem dL_isPassed_362 : decode cL_isPassed 362 = .ok (.aload_n 2, 1) := by decide +kernel
theorem dL_isPassed_363 : decode cL_isPassed 363 = .ok (.iload 7, 2) := by decide +kernel
theorem dL_isPassed_365 : decode cL_isPassed 365 = .ok (.iconst 2, 1) := by decide +kernel
theorem dL_isPassed_366 : decode cL_isPassed 366 = .ok (.iadd, 1) := by decide +kernel
theorem dL_isPassed_367 : decode cL_isPassed 367 = .ok (.iaload, 1) := by decide +kernel
theorem dL_isPassed_368 : decode cL_isPassed 368 = .ok (.aload_n 3, 1) := by decide +kernel
theorem dL_isPassed_369 : decode cL_isPassed 369 = .ok (.iconst 4, 1) := by decide +kernel
theorem dL_isPassed_370 : decode cL_isPassed 370 = .ok (.iaload, 1) := by decide +kernel
theorem dL_isPassed_371 : decode cL_isPassed 371 = .ok (.if_icmp .ne 7, 3) := by decide +kernel
theorem dL_isPassed_374 : decode cL_isPassed 374 = .ok (.iconst 1, 1) := by decide +kernel
theorem dL_isPassed_375 : decode cL_isPassed 375 = .ok (.goto 4, 3) := by decide +kernel
theorem dL_isPassed_378 : decode cL_isPassed 378 = .ok (.iconst 0, 1) := by decide +kernel
theorem dL_isPassed_379 : decode cL_isPassed 379 = .ok (.iastore, 1) := by decide +kernel
theorem dL_isPassed_380 : decode cL_isPassed 380 = .ok (.iload 11, 2) := by decide +kernel
theorem dL_isPassed_382 : decode cL_isPassed 382 = .ok (.iload 12, 2) := by decide +kernel
theorem dL_isPassed_384 : decode cL_isPassed 384 = .ok (.ifCond .ne 7, 3) := by decide +kernel
theorem dL_isPassed_387 : decode cL_isPassed 387 = .ok (.iconst 2, 1) := by decide +kernel
theorem dL_isPassed_388 : decode cL_isPassed 388 = .ok (.goto 18, 3) := by decide +kernel
theorem dL_isPassed_391 : decode cL_isPassed 391 = .ok (.aload_n 2, 1) := by decide +kernel
theorem dL_isPassed_392 : decode cL_isPassed 392 = .ok (.iload 7, 2) := by decide +kernel
theorem dL_isPassed_394 : decode cL_isPassed 394 = .ok (.iconst 5, 1) := by decide +kernel
theorem dL_isPassed_395 : decode cL_isPassed 395 = .ok (.iadd, 1) := by decide +kernel
theorem dL_isPassed_396 : decode cL_isPassed 396 = .ok (.iaload, 1) := by decide +kernel
theorem dL_isPassed_397 : decode cL_isPassed 397 = .ok (.iconst 1, 1) := by decide +kernel
theorem dL_isPassed_398 : decode cL_isPassed 398 = .ok (.if_icmp .ne 7, 3) := by decide +kernel
theorem dL_isPassed_401 : decode cL_isPassed 401 = .ok (.iconst 5, 1) := by decide +kernel
theorem dL_isPassed_402 : decode cL_isPassed 402 = .ok (.goto 4, 3) := by decide +kernel
theorem dL_isPassed_405 : decode cL_isPassed 405 = .ok (.iconst 1, 1) := by decide +kernel
theorem dL_isPassed_406 : decode cL_isPassed 406 = .ok (.if_icmp .ne 7, 3) := by decide +kernel
theorem dL_isPassed_409 : decode cL_isPassed 409 = .ok (.iconst 1, 1) := by decide +kernel
theorem dL_isPassed_410 : decode cL_isPassed 410 = .ok (.goto 4, 3) := by decide +kernel
theorem dL_isPassed_413 : decode cL_isPassed 413 = .ok (.iconst 0, 1) := by decide +kernel
theorem dL_isPassed_414 : decode cL_isPassed 414 = .ok (.ireturn, 1) := by decide +kernel
set_option maxRecDepth 20000 in
theorem ggL_isItem_X5_itemOf : GoodIn wsL_isItem wsX5_itemOf := goodIn_ca (goodIn_r _ [5, 6, 7, 8, 9, 10, 4, 11, 12, 13, 14, 15, 16, 17, 18, 19, 20, 315, 316, 317, 318, 319, 320, 321, 322, 323, 324, 325, 326, 327, 328] (by decide +kernel) (by decide +kernel)) (goodIn_sub (fun _ h => List.mem_cons_of_mem _ (List.mem_append_left _ (List.mem_append_left _ (List.mem_append_right _ h)))) (by decide +kernel))
set_option maxRecDepth 20000 in
theorem gL_isItem_X5_itemOf : GoodIn wsL_isItem (wsV RL 72 RX5 yX5_itemOf wsX5_itemOf) := goodIn_app (goodIn_of _ (by decide +kernel)) ggL_isItem_X5_itemOf
set_option maxRecDepth 20000 in
theorem ggL_isItem_X5_rank : GoodIn wsL_isItem wsX5_rank := goodIn_ca (goodIn_ca (goodIn_r _ [24, 25, 8, 9, 10, 4, 11, 12, 13, 14, 26, 27, 28, 29, 30, 31, 6, 32, 33, 34, 35, 36, 37, 38, 39, 40, 41, 42, 43, 44, 45, 46, 47, 48, 49, 50, 51, 52, 53, 54, 55, 56, 57, 58, 59, 60, 61, 315, 316, 317, 318, 319, 320, 321, 322, 323, 324, 329, 330, 331, 332, 333, 334, 335, 336, 337, 338, 339, 340, 341, 342, 343] (by decide +kernel) (by decide +kernel)) (goodIn_sub (fun _ h => List.mem_cons_of_mem _ (List.mem_append_left _ (List.mem_append_left _ (List.mem_append_right _ h)))) (by decide +kernel))) (goodIn_sub (fun _ h => List.mem_cons_of_mem _ (List.mem_append_left _ (List.mem_append_right _ h))) (by decide +kernel))
set_option maxRecDepth 20000 in
theorem gL_isItem_X5_rank : GoodIn wsL_isItem (wsV RL 63 RX5 yX5_rank wsX5_rank) := goodIn_app (goodIn_of _ (by decide +kernel)) ggL_isItem_X5_rank
set_option maxRecDepth 20000 in
theorem ggL_isItem_L_does : GoodIn wsL_isItem wsL_does := goodIn_ca (goodIn_ca (goodIn_ca (goodIn_r _ [65, 66, 67, 68, 69, 70, 71, 4, 72, 30, 31, 73, 74, 75, 76, 77, 6, 78, 79, 80, 81, 82, 83, 84, 85, 86, 87, 59, 88, 89, 90, 91, 92, 93, 61, 94, 95, 96, 97, 98, 99, 100, 101, 102, 103, 104, 12, 13, 105, 106, 107, 108, 109, 110, 111, 112, 113, 114, 115, 116, 117, 118, 119, 120, 121, 122, 123, 124, 125, 126, 127, 128, 129, 130, 131, 132, 133, 134, 135, 136, 137, 138, 14, 139, 140, 141, 142, 143, 144, 145, 146, 147, 25, 148, 7, 149, 150, 151, 152, 153, 154, 155, 156, 157, 158, 159, 35, 160, 37, 50, 161, 44, 49, 55, 162, 42, 163, 164, 165, 166, 167, 168, 169, 170, 171, 18, 172, 20, 173, 174, 175, 176, 177, 178, 179, 8, 9, 10, 11, 180, 181, 182, 183, 26, 27, 28, 29, 184, 46, 47, 48, 185, 186, 187, 188, 189, 190, 191, 192, 193, 194, 195, 196, 197, 198, 199, 200, 201, 202, 203, 204, 205, 206, 207, 208, 209, 210, 211, 212, 213, 43, 214, 215, 216, 217, 218, 219, 220, 221, 222, 223, 224, 225, 226, 227, 228, 229, 230, 45, 231, 232, 233, 234, 235, 236, 237, 238, 239, 240, 241, 242, 243, 244, 245, 246, 15, 16, 17, 19, 32, 33, 34, 36, 38, 39, 40, 41, 51, 52, 53, 54, 56, 57, 58, 60, 247, 248, 249, 250, 251, 252, 253, 254, 255, 256, 257, 258, 259, 260, 261, 262, 263, 264, 265, 266, 267, 268, 269, 270, 271, 272, 273, 274, 275, 276, 277, 278, 279, 280, 281, 282, 283, 284, 285, 286, 287, 288, 289, 290, 291, 292, 293, 294, 295, 296, 297, 298, 299, 300, 301, 302, 303, 304, 305, 306, 307, 308, 309, 310, 315, 316, 317, 318, 319, 320, 321, 322, 323, 324, 344, 345, 346, 347, 340, 341, 342, 343, 329, 330, 331, 332, 333, 334, 335, 336, 337, 338, 339, 348, 349, 350, 325, 326, 327, 328] (by decide +kernel) (by decide +kernel)) (goodIn_sub (fun _ h => List.mem_cons_of_mem _ (List.mem_append_left _ (List.mem_append_right _ h))) (by decide +kernel))) (goodIn_sub (fun _ h => List.mem_cons_of_mem _ (List.mem_append_right _ h)) (by decide +kernel))) (goodIn_sub (fun _ h => List.mem_cons_of_mem _ (List.mem_append_left _ (List.mem_append_left _ (List.mem_append_right _ h)))) (by decide +kernel))
set_option maxRecDepth 20000 in
theorem gL_isItem_L_does : GoodIn wsL_isItem (va_wsS RL 123 yL_does wsL_does) := goodIn_app (goodIn_of _ (by decide +kernel)) ggL_isItem_L_does
set_option maxRecDepth 20000 in
theorem ggL_isItem_X5_stunned : GoodIn wsL_isItem wsX5_stunned := goodIn_ca (goodIn_r _ [314, 6, 7, 179, 8, 9, 10, 4, 11, 12, 13, 14, 185, 186, 187, 18, 188, 174, 189, 190, 128, 191, 315, 316, 317, 318, 319, 320, 321, 322, 323, 324, 325, 326, 327, 328] (by decide +kernel) (by decide +kernel)) (goodIn_sub (fun _ h => List.mem_cons_of_mem _ (List.mem_append_left _ (List.mem_append_left _ (List.mem_append_right _ h)))) (by decide +kernel))
set_option maxRecDepth 20000 in
theorem gL_isItem_X5_stunned : GoodIn wsL_isItem (wsV RL 75 RX5 yX5_stunned wsX5_stunned) := goodIn_app (goodIn_of _ (by decide +kernel)) ggL_isItem_X5_stunned
theorem dL_isItem_0 : decode cL_isItem 0 = .ok (.iload_n 3, 1) := by decide +kernel
theorem dL_isItem_1 : decode cL_isItem 1 = .ok (.aload_n 2, 1) := by decide +kernel
theorem dL_isItem_2 : decode cL_isItem 2 = .ok (.iconst 2, 1) := by decide +kernel
theorem dL_isItem_3 : decode cL_isItem 3 = .ok (.iaload, 1) := by decide +kernel
theorem dL_isItem_4 : decode cL_isItem 4 = .ok (.if_icmp .ge 7, 3) := by decide +kernel
theorem dL_isItem_7 : decode cL_isItem 7 = .ok (.iconst 1, 1) := by decide +kernel
theorem dL_isItem_8 : decode cL_isItem 8 = .ok (.goto 4, 3) := by decide +kernel
theorem dL_isItem_11 : decode cL_isItem 11 = .ok (.iconst 0, 1) := by decide +kernel
theorem dL_isItem_12 : decode cL_isItem 12 = .ok (.istore 5, 2) := by decide +kernel
theorem dL_isItem_14 : decode cL_isItem 14 = .ok (.iload 5, 2) := by decide +kernel
theorem dL_isItem_16 : decode cL_isItem 16 = .ok (.ifCond .eq 11, 3) := by decide +kernel
theorem dL_isItem_19 : decode cL_isItem 19 = .ok (.aload_n 0, 1) := by decide +kernel
theorem dL_isItem_20 : decode cL_isItem 20 = .ok (.iload_n 3, 1) := by decide +kernel
theorem dL_isItem_21 : decode cL_isItem 21 = .ok (.invokevirtual 72, 3) := by decide +kernel
theorem dL_isItem_24 : decode cL_isItem 24 = .ok (.goto 4, 3) := by decide +kernel
theorem dL_isItem_27 : decode cL_isItem 27 = .ok (.iconst (-1), 1) := by decide +kernel
theorem dL_isItem_28 : decode cL_isItem 28 = .ok (.istore 6, 2) := by decide +kernel
theorem dL_isItem_30 : decode cL_isItem 30 = .ok (.iload 5, 2) := by decide +kernel
theorem dL_isItem_32 : decode cL_isItem 32 = .ok (.ifCond .eq 43, 3) := by decide +kernel
theorem dL_isItem_35 : decode cL_isItem 35 = .ok (.aload_n 2, 1) := by decide +kernel
theorem dL_isItem_36 : decode cL_isItem 36 = .ok (.iconst 3, 1) := by decide +kernel
theorem dL_isItem_37 : decode cL_isItem 37 = .ok (.iaload, 1) := by decide +kernel
theorem dL_isItem_38 : decode cL_isItem 38 = .ok (.iconst 1, 1) := by decide +kernel
theorem dL_isItem_39 : decode cL_isItem 39 = .ok (.if_icmp .ne 36, 3) := by decide +kernel
theorem dL_isItem_42 : decode cL_isItem 42 = .ok (.aload_n 1, 1) := by decide +kernel
theorem dL_isItem_43 : decode cL_isItem 43 = .ok (.bipush 6, 2) := by decide +kernel
theorem dL_isItem_45 : decode cL_isItem 45 = .ok (.iload_n 3, 1) := by decide +kernel
theorem dL_isItem_46 : decode cL_isItem 46 = .ok (.imul, 1) := by decide +kernel
theorem dL_isItem_47 : decode cL_isItem 47 = .ok (.iconst 5, 1) := by decide +kernel
theorem dL_isItem_48 : decode cL_isItem 48 = .ok (.iadd, 1) := by decide +kernel
theorem dL_isItem_49 : decode cL_isItem 49 = .ok (.iaload, 1) := by decide +kernel
theorem dL_isItem_50 : decode cL_isItem 50 = .ok (.ifCond .ne 25, 3) := by decide +kernel
theorem dL_isItem_53 : decode cL_isItem 53 = .ok (.iload 4, 2) := by decide +kernel
theorem dL_isItem_55 : decode cL_isItem 55 = .ok (.ifCond .eq 11, 3) := by decide +kernel
theorem dL_isItem_58 : decode cL_isItem 58 = .ok (.iload 6, 2) := by decide +kernel
theorem dL_isItem_60 : decode cL_isItem 60 = .ok (.ifCond .lt 15, 3) := by decide +kernel
theorem dL_isItem_63 : decode cL_isItem 63 = .ok (.goto 8, 3) := by decide +kernel
theorem dL_isItem_66 : decode cL_isItem 66 = .ok (.iload 6, 2) := by decide +kernel
theorem dL_isItem_68 : decode cL_isItem 68 = .ok (.ifCond .ge 7, 3) := by decide +kernel
theorem dL_isItem_71 : decode cL_isItem 71 = .ok (.iconst 1, 1) := by decide +kernel
theorem dL_isItem_72 : decode cL_isItem 72 = .ok (.goto 4, 3) := by decide +kernel
theorem dL_isItem_75 : decode cL_isItem 75 = .ok (.iconst 0, 1) := by decide +kernel
theorem dL_isItem_76 : decode cL_isItem 76 = .ok (.istore 7, 2) := by decide +kernel
theorem dL_isItem_78 : decode cL_isItem 78 = .ok (.iload 7, 2) := by decide +kernel
theorem dL_isItem_80 : decode cL_isItem 80 = .ok (.ifCond .eq 11, 3) := by decide +kernel
theorem dL_isItem_83 : decode cL_isItem 83 = .ok (.aload_n 0, 1) := by decide +kernel
theorem dL_isItem_84 : decode cL_isItem 84 = .ok (.iload_n 3, 1) := by decide +kernel
theorem dL_isItem_85 : decode cL_isItem 85 = .ok (.invokevirtual 63, 3) := by decide +kernel
theorem dL_isItem_88 : decode cL_isItem 88 = .ok (.goto 4, 3) := by decide +kernel
theorem dL_isItem_91 : decode cL_isItem 91 = .ok (.iconst 0, 1) := by decide +kernel
theorem dL_isItem_92 : decode cL_isItem 92 = .ok (.istore 8, 2) := by decide +kernel
theorem dL_isItem_94 : decode cL_isItem 94 = .ok (.aload_n 0, 1) := by decide +kernel
theorem dL_isItem_95 : decode cL_isItem 95 = .ok (.iload 4, 2) := by decide +kernel
theorem dL_isItem_97 : decode cL_isItem 97 = .ok (.ifCond .eq 8, 3) := by decide +kernel
theorem dL_isItem_100 : decode cL_isItem 100 = .ok (.bipush 7, 2) := by decide +kernel
theorem dL_isItem_102 : decode cL_isItem 102 = .ok (.goto 5, 3) := by decide +kernel
theorem dL_isItem_105 : decode cL_isItem 105 = .ok (.bipush 6, 2) := by decide +kernel
theorem dL_isItem_107 : decode cL_isItem 107 = .ok (.iload_n 3, 1) := by decide +kernel
theorem dL_isItem_108 : decode cL_isItem 108 = .ok (.iconst 0, 1) := by decide +kernel
theorem dL_isItem_109 : decode cL_isItem 109 = .ok (.iconst 0, 1) := by decide +kernel
theorem dL_isItem_110 : decode cL_isItem 110 = .ok (.invokestatic 123, 3) := by decide +kernel
theorem dL_isItem_113 : decode cL_isItem 113 = .ok (.istore 9, 2) := by decide +kernel
theorem dL_isItem_115 : decode cL_isItem 115 = .ok (.iload 7, 2) := by decide +kernel
theorem dL_isItem_117 : decode cL_isItem 117 = .ok (.ifCond .ne 26, 3) := by decide +kernel
theorem dL_isItem_120 : decode cL_isItem 120 = .ok (.iload 9, 2) := by decide +kernel
theorem dL_isItem_122 : decode cL_isItem 122 = .ok (.iload 5, 2) := by decide +kernel
theorem dL_isItem_124 : decode cL_isItem 124 = .ok (.ifCond .eq 8, 3) := by decide +kernel
theorem dL_isItem_127 : decode cL_isItem 127 = .ok (.bipush (-10), 2) := by decide +kernel
theorem dL_isItem_129 : decode cL_isItem 129 = .ok (.goto 5, 3) := by decide +kernel
theorem dL_isItem_132 : decode cL_isItem 132 = .ok (.bipush (-30), 2) := by decide +kernel
theorem dL_isItem_134 : decode cL_isItem 134 = .ok (.if_icmp .ne 7, 3) := by decide +kernel
theorem dL_isItem_137 : decode cL_isItem 137 = .ok (.iconst 1, 1) := by decide +kernel
theorem dL_isItem_138 : decode cL_isItem 138 = .ok (.goto 4, 3) := by decide +kernel
theorem dL_isItem_141 : decode cL_isItem 141 = .ok (.iconst 0, 1) := by decide +kernel
theorem dL_isItem_142 : decode cL_isItem 142 = .ok (.ireturn, 1) := by decide +kernel
theorem dL_isItem_143 : decode cL_isItem 143 = .ok (.iload 4, 2) := by decide +kernel
theorem dL_isItem_145 : decode cL_isItem 145 = .ok (.ifCond .ne 53, 3) := by decide +kernel
theorem dL_isItem_148 : decode cL_isItem 148 = .ok (.iload 9, 2) := by decide +kernel
theorem dL_isItem_150 : decode cL_isItem 150 = .ok (.ifCond .lt 46, 3) := by decide +kernel
theorem dL_isItem_153 : decode cL_isItem 153 = .ok (.iload 9, 2) := by decide +kernel
theorem dL_isItem_155 : decode cL_isItem 155 = .ok (.iconst 4, 1) := by decide +kernel
theorem dL_isItem_156 : decode cL_isItem 156 = .ok (.if_icmp .ge 40, 3) := by decide +kernel
theorem dL_isItem_159 : decode cL_isItem 159 = .ok (.aload_n 0, 1) := by decide +kernel
theorem dL_isItem_160 : decode cL_isItem 160 = .ok (.iload_n 3, 1) := by decide +kernel
theorem dL_isItem_161 : decode cL_isItem 161 = .ok (.invokevirtual 72, 3) := by decide +kernel
theorem dL_isItem_164 : decode cL_isItem 164 = .ok (.iload 9, 2) := by decide +kernel
theorem dL_isItem_166 : decode cL_isItem 166 = .ok (.if_icmp .ne 30, 3) := by decide +kernel
theorem dL_isItem_169 : decode cL_isItem 169 = .ok (.iload 8, 2) := by decide +kernel
theorem dL_isItem_171 : decode cL_isItem 171 = .ok (.ifCond .gt 9, 3) := by decide +kernel
theorem dL_isItem_174 : decode cL_isItem 174 = .ok (.iload 9, 2) := by decide +kernel
theorem dL_isItem_176 : decode cL_isItem 176 = .ok (.iconst 3, 1) := by decide +kernel
theorem dL_isItem_177 : decode cL_isItem 177 = .ok (.if_icmp .eq 19, 3) := by decide +kernel
theorem dL_isItem_180 : decode cL_isItem 180 = .ok (.iload 8, 2) := by decide +kernel
theorem dL_isItem_182 : decode cL_isItem 182 = .ok (.iconst 3, 1) := by decide +kernel
theorem dL_isItem_183 : decode cL_isItem 183 = .ok (.if_icmp .lt 9, 3) := by decide +kernel
theorem dL_isItem_186 : decode cL_isItem 186 = .ok (.iload 9, 2) := by decide +kernel
theorem dL_isItem_188 : decode cL_isItem 188 = .ok (.iconst 2, 1) := by decide +kernel
theorem dL_isItem_189 : decode cL_isItem 189 = .ok (.if_icmp .eq 7, 3) := by decide +kernel
theorem dL_isItem_192 : decode cL_isItem 192 = .ok (.iconst 1, 1) := by decide +kernel
theorem dL_isItem_193 : decode cL_isItem 193 = .ok (.goto 4, 3) := by decide +kernel
theorem dL_isItem_196 : decode cL_isItem 196 = .ok (.iconst 0, 1) := by decide +kernel
theorem dL_isItem_197 : decode cL_isItem 197 = .ok (.ireturn, 1) := by decide +kernel
theorem dL_isItem_198 : decode cL_isItem 198 = .ok (.aload_n 0, 1) := by decide +kernel
theorem dL_isItem_199 : decode cL_isItem 199 = .ok (.iload_n 3, 1) := by decide +kernel
theorem dL_isItem_200 : decode cL_isItem 200 = .ok (.invokevirtual 72, 3) := by decide +kernel
theorem dL_isItem_203 : decode cL_isItem 203 = .ok (.iconst (-1), 1) := by decide +kernel
theorem dL_isItem_204 : decode cL_isItem 204 = .ok (.if_icmp .ne 71, 3) := by decide +kernel
theorem dL_isItem_207 : decode cL_isItem 207 = .ok (.iload 9, 2) := by decide +kernel
theorem dL_isItem_209 : decode cL_isItem 209 = .ok (.ifCond .lt 66, 3) := by decide +kernel
theorem dL_isItem_212 : decode cL_isItem 212 = .ok (.iload 9, 2) := by decide +kernel
theorem dL_isItem_214 : decode cL_isItem 214 = .ok (.iload 6, 2) := by decide +kernel
theorem dL_isItem_216 : decode cL_isItem 216 = .ok (.iconst 1, 1) := by decide +kernel
theorem dL_isItem_217 : decode cL_isItem 217 = .ok (.if_icmp .ne 16, 3) := by decide +kernel
theorem dL_isItem_220 : decode cL_isItem 220 = .ok (.iload 8, 2) := by decide +kernel
theorem dL_isItem_222 : decode cL_isItem 222 = .ok (.ifCond .le 7, 3) := by decide +kernel
theorem dL_isItem_225 : decode cL_isItem 225 = .ok (.iconst 1, 1) := by decide +kernel
theorem dL_isItem_226 : decode cL_isItem 226 = .ok (.goto 19, 3) := by decide +kernel
theorem dL_isItem_229 : decode cL_isItem 229 = .ok (.iconst 0, 1) := by decide +kernel
theorem dL_isItem_230 : decode cL_isItem 230 = .ok (.goto 15, 3) := by decide +kernel
theorem dL_isItem_233 : decode cL_isItem 233 = .ok (.iload 6, 2) := by decide +kernel
theorem dL_isItem_235 : decode cL_isItem 235 = .ok (.iconst 3, 1) := by decide +kernel
theorem dL_isItem_236 : decode cL_isItem 236 = .ok (.if_icmp .ne 8, 3) := by decide +kernel
theorem dL_isItem_239 : decode cL_isItem 239 = .ok (.iload 8, 2) := by decide +kernel
theorem dL_isItem_241 : decode cL_isItem 241 = .ok (.goto 4, 3) := by decide +kernel
theorem dL_isItem_244 : decode cL_isItem 244 = .ok (.iconst 0, 1) := by decide +kernel
theorem dL_isItem_245 : decode cL_isItem 245 = .ok (.if_icmp .gt 30, 3) := by decide +kernel
theorem dL_isItem_248 : decode cL_isItem 248 = .ok (.iload 6, 2) := by decide +kernel
theorem dL_isItem_250 : decode cL_isItem 250 = .ok (.ifCond .gt 11, 3) := by decide +kernel
theorem dL_isItem_253 : decode cL_isItem 253 = .ok (.aload_n 0, 1) := by decide +kernel
theorem dL_isItem_254 : decode cL_isItem 254 = .ok (.iload_n 3, 1) := by decide +kernel
theorem dL_isItem_255 : decode cL_isItem 255 = .ok (.invokevirtual 75, 3) := by decide +kernel
theorem dL_isItem_258 : decode cL_isItem 258 = .ok (.ifCond .ne 17, 3) := by decide +kernel
theorem dL_isItem_261 : decode cL_isItem 261 = .ok (.aload_n 0, 1) := by decide +kernel
theorem dL_isItem_262 : decode cL_isItem 262 = .ok (.iload_n 3, 1) := by decide +kernel
theorem dL_isItem_263 : decode cL_isItem 263 = .ok (.invokevirtual 63, 3) := by decide +kernel
theorem dL_isItem_266 : decode cL_isItem 266 = .ok (.iload 8, 2) := by decide +kernel
theorem dL_isItem_268 : decode cL_isItem 268 = .ok (.if_icmp .ne 7, 3) := by decide +kernel
theorem dL_isItem_271 : decode cL_isItem 271 = .ok (.iconst 1, 1) := by decide +kernel
theorem dL_isItem_272 : decode cL_isItem 272 = .ok (.goto 4, 3) := by decide +kernel
theorem dL_isItem_275 : decode cL_isItem 275 = .ok (.iconst 0, 1) := by decide +kernel
theorem dL_isItem_276 : decode cL_isItem 276 = .ok (.ireturn, 1) := by decide +kernel
set_option maxRecDepth 20000 in
theorem ggL_isEnded_X5_rank : GoodIn wsL_isEnded wsX5_rank := goodIn_ca (goodIn_ca (goodIn_r _ [6, 7, 8, 9, 10, 5, 11, 12, 13, 14, 15, 16, 17, 18, 19, 20, 21, 22, 23, 24, 25, 26, 27, 28, 29, 30, 31, 32, 33, 34, 35, 36, 37, 38, 39, 40, 41, 42, 43, 44, 45, 46, 47, 48, 49, 50, 51, 335, 336, 337, 338, 339, 340, 341, 342, 343, 344, 345, 346, 347, 348, 349, 350, 351, 352, 353, 354, 355, 356, 357, 358, 359] (by decide +kernel) (by decide +kernel)) (goodIn_sub (fun _ h => List.mem_cons_of_mem _ (List.mem_append_left _ (List.mem_append_left _ (List.mem_append_right _ h)))) (by decide +kernel))) (goodIn_sub (fun _ h => List.mem_cons_of_mem _ (List.mem_append_left _ (List.mem_append_right _ h))) (by decide +kernel))
set_option maxRecDepth 20000 in
theorem gL_isEnded_X5_rank : GoodIn wsL_isEnded (wsV RL 63 RX5 yX5_rank wsX5_rank) := goodIn_app (goodIn_of _ (by decide +kernel)) ggL_isEnded_X5_rank
set_option maxRecDepth 20000 in
theorem ggL_isEnded_X5_points : GoodIn wsL_isEnded wsX5_points := goodIn_ca (goodIn_r _ [55, 56, 8, 9, 10, 5, 11, 12, 13, 14, 57, 58, 59, 60, 61, 62, 63, 64, 65, 66, 67, 68, 335, 336, 337, 338, 339, 340, 341, 342, 343, 344, 360, 361, 362, 363] (by decide +kernel) (by decide +kernel)) (goodIn_sub (fun _ h => List.mem_cons_of_mem _ (List.mem_append_left _ (List.mem_append_left _ (List.mem_append_right _ h)))) (by decide +kernel))
set_option maxRecDepth 20000 in
theorem gL_isEnded_X5_points : GoodIn wsL_isEnded (wsV RL 81 RX5 yX5_points wsX5_points) := goodIn_app (goodIn_of _ (by decide +kernel)) ggL_isEnded_X5_points
set_option maxRecDepth 20000 in
theorem ggL_isEnded_L_does : GoodIn wsL_isEnded wsL_does := goodIn_ca (goodIn_ca (goodIn_ca (goodIn_r _ [72, 73, 74, 75, 76, 77, 78, 5, 79, 19, 20, 80, 81, 82, 83, 84, 21, 56, 85, 86, 87, 60, 88, 62, 89, 90, 91, 49, 92, 93, 94, 95, 96, 97, 51, 98, 99, 100, 101, 102, 103, 104, 105, 106, 107, 108, 12, 13, 109, 110, 111, 112, 113, 114, 115, 116, 117, 118, 119, 120, 121, 122, 123, 124, 125, 126, 127, 128, 129, 130, 131, 132, 133, 134, 135, 136, 137, 138, 139, 140, 141, 142, 14, 143, 144, 145, 146, 147, 148, 149, 150, 151, 7, 152, 153, 154, 155, 156, 157, 158, 159, 160, 161, 162, 163, 164, 25, 165, 27, 40, 166, 34, 39, 45, 167, 32, 168, 169, 170, 171, 172, 173, 174, 175, 176, 177, 178, 179, 180, 181, 182, 183, 184, 185, 186, 8, 9, 10, 11, 187, 188, 189, 190, 15, 16, 17, 18, 191, 36, 37, 38, 192, 193, 194, 195, 196, 197, 198, 199, 200, 201, 202, 203, 204, 205, 206, 207, 208, 209, 210, 211, 212, 213, 214, 215, 216, 217, 218, 219, 220, 33, 221, 222, 223, 224, 225, 226, 227, 228, 229, 230, 231, 232, 233, 234, 235, 236, 237, 35, 238, 239, 240, 241, 242, 243, 244, 245, 246, 247, 248, 249, 250, 251, 252, 253, 254, 255, 256, 257, 22, 23, 24, 26, 28, 29, 30, 31, 41, 42, 43, 44, 46, 47, 48, 50, 258, 259, 260, 261, 262, 263, 264, 265, 266, 267, 268, 269, 270, 271, 272, 273, 274, 275, 276, 277, 278, 279, 280, 281, 282, 283, 284, 285, 286, 287, 288, 289, 290, 291, 292, 293, 294, 295, 296, 297, 298, 299, 300, 301, 302, 303, 304, 305, 306, 64, 307, 308, 309, 310, 311, 312, 313, 314, 315, 316, 317, 318, 319, 63, 335, 336, 337, 338, 339, 340, 341, 342, 343, 344, 360, 361, 362, 363, 356, 357, 358, 359, 345, 346, 347, 348, 349, 350, 351, 352, 353, 354, 355, 364, 365, 366, 367, 368, 369, 370] (by decide +kernel) (by decide +kernel)) (goodIn_sub (fun _ h => List.mem_cons_of_mem _ (List.mem_append_left _ (List.mem_append_right _ h))) (by decide +kernel))) (goodIn_sub (fun _ h => List.mem_cons_of_mem _ (List.mem_append_right _ h)) (by decide +kernel))) (goodIn_sub (fun _ h => List.mem_cons_of_mem _ (List.mem_append_left _ (List.mem_append_left _ (List.mem_append_right _ h)))) (by decide +kernel))
set_option maxRecDepth 20000 in
theorem gL_isEnded_L_does : GoodIn wsL_isEnded (va_wsS RL 123 yL_does wsL_does) := goodIn_app (goodIn_of _ (by decide +kernel)) ggL_isEnded_L_does
set_option maxRecDepth 20000 in
theorem ggL_isEnded_L_worth : GoodIn wsL_isEnded wsL_worth := goodIn_r _ [322] (by decide +kernel) (by decide +kernel)
set_option maxRecDepth 20000 in
theorem gL_isEnded_L_worth : GoodIn wsL_isEnded (va_wsS RL 117 yL_worth wsL_worth) := goodIn_app (goodIn_of _ (by decide +kernel)) ggL_isEnded_L_worth
set_option maxRecDepth 20000 in
theorem ggL_isEnded_X5_place : GoodIn wsL_isEnded wsX5_place := goodIn_ca (goodIn_r _ [326, 12, 13, 56, 85, 86, 87, 60, 88, 62, 8, 9, 10, 5, 11, 14, 327, 328, 329, 330, 306, 335, 336, 337, 338, 339, 340, 341, 342, 343, 344, 360, 361, 362, 363] (by decide +kernel) (by decide +kernel)) (goodIn_sub (fun _ h => List.mem_cons_of_mem _ (List.mem_append_left _ (List.mem_append_left _ (List.mem_append_right _ h)))) (by decide +kernel))
set_option maxRecDepth 20000 in
theorem gL_isEnded_X5_place : GoodIn wsL_isEnded (wsV RL 78 RX5 yX5_place wsX5_place) := goodIn_app (goodIn_of _ (by decide +kernel)) ggL_isEnded_X5_place
set_option maxRecDepth 20000 in
theorem ggL_isEnded_X5_isOn : GoodIn wsL_isEnded wsX5_isOn := goodIn_r _ [334, 21, 335, 336, 337, 338, 339, 340, 341, 342, 343, 344] (by decide +kernel) (by decide +kernel)
set_option maxRecDepth 20000 in
theorem gL_isEnded_X5_isOn : GoodIn wsL_isEnded (wsV RL 110 RX5 yX5_isOn wsX5_isOn) := goodIn_app (goodIn_of _ (by decide +kernel)) ggL_isEnded_X5_isOn
theorem dL_isEnded_0 : decode cL_isEnded 0 = .ok (.iconst (-1), 1) := by decide +kernel
theorem dL_isEnded_1 : decode cL_isEnded 1 = .ok (.istore_n 3, 1) := by decide +kernel
theorem dL_isEnded_2 : decode cL_isEnded 2 = .ok (.iconst 0, 1) := by decide +kernel
theorem dL_isEnded_3 : decode cL_isEnded 3 = .ok (.istore 4, 2) := by decide +kernel
theorem dL_isEnded_5 : decode cL_isEnded 5 = .ok (.iload 4, 2) := by decide +kernel
theorem dL_isEnded_7 : decode cL_isEnded 7 = .ok (.aload_n 2, 1) := by decide +kernel
theorem dL_isEnded_8 : decode cL_isEnded 8 = .ok (.iconst 2, 1) := by decide +kernel
theorem dL_isEnded_9 : decode cL_isEnded 9 = .ok (.iaload, 1) := by decide +kernel
theorem dL_isEnded_10 : decode cL_isEnded 10 = .ok (.if_icmp .ge 32, 3) := by decide +kernel
theorem dL_isEnded_13 : decode cL_isEnded 13 = .ok (.aload_n 2, 1) := by decide +kernel
theorem dL_isEnded_14 : decode cL_isEnded 14 = .ok (.iconst 3, 1) := by decide +kernel
theorem dL_isEnded_15 : decode cL_isEnded 15 = .ok (.iaload, 1) := by decide +kernel
theorem dL_isEnded_16 : decode cL_isEnded 16 = .ok (.iconst 1, 1) := by decide +kernel
theorem dL_isEnded_17 : decode cL_isEnded 17 = .ok (.if_icmp .ne 25, 3) := by decide +kernel
theorem dL_isEnded_20 : decode cL_isEnded 20 = .ok (.aload_n 0, 1) := by decide +kernel
theorem dL_isEnded_21 : decode cL_isEnded 21 = .ok (.iload 4, 2) := by decide +kernel
theorem dL_isEnded_23 : decode cL_isEnded 23 = .ok (.invokevirtual 63, 3) := by decide +kernel
theorem dL_isEnded_26 : decode cL_isEnded 26 = .ok (.ifCond .ne 8, 3) := by decide +kernel
theorem dL_isEnded_29 : decode cL_isEnded 29 = .ok (.iload 4, 2) := by decide +kernel
theorem dL_isEnded_31 : decode cL_isEnded 31 = .ok (.goto 4, 3) := by decide +kernel
theorem dL_isEnded_34 : decode cL_isEnded 34 = .ok (.iload_n 3, 1) := by decide +kernel
theorem dL_isEnded_35 : decode cL_isEnded 35 = .ok (.istore_n 3, 1) := by decide +kernel
theorem dL_isEnded_36 : decode cL_isEnded 36 = .ok (.iinc 4 1, 3) := by decide +kernel
theorem dL_isEnded_39 : decode cL_isEnded 39 = .ok (.goto (-34), 3) := by decide +kernel
theorem dL_isEnded_42 : decode cL_isEnded 42 = .ok (.bipush 6, 2) := by decide +kernel
theorem dL_isEnded_44 : decode cL_isEnded 44 = .ok (.newarray .int, 2) := by decide +kernel
theorem dL_isEnded_46 : decode cL_isEnded 46 = .ok (.astore 4, 2) := by decide +kernel
theorem dL_isEnded_48 : decode cL_isEnded 48 = .ok (.bipush 6, 2) := by decide +kernel
theorem dL_isEnded_50 : decode cL_isEnded 50 = .ok (.newarray .int, 2) := by decide +kernel
theorem dL_isEnded_52 : decode cL_isEnded 52 = .ok (.astore 5, 2) := by decide +kernel
theorem dL_isEnded_54 : decode cL_isEnded 54 = .ok (.iconst 0, 1) := by decide +kernel
theorem dL_isEnded_55 : decode cL_isEnded 55 = .ok (.istore 6, 2) := by decide +kernel
theorem dL_isEnded_57 : decode cL_isEnded 57 = .ok (.iload 6, 2) := by decide +kernel
theorem dL_isEnded_59 : decode cL_isEnded 59 = .ok (.aload_n 2, 1) := by decide +kernel
theorem dL_isEnded_60 : decode cL_isEnded 60 = .ok (.iconst 2, 1) := by decide +kernel
theorem dL_isEnded_61 : decode cL_isEnded 61 = .ok (.iaload, 1) := by decide +kernel
theorem dL_isEnded_62 : decode cL_isEnded 62 = .ok (.if_icmp .ge 42, 3) := by decide +kernel
theorem dL_isEnded_65 : decode cL_isEnded 65 = .ok (.aload 4, 2) := by decide +kernel
theorem dL_isEnded_67 : decode cL_isEnded 67 = .ok (.iload 6, 2) := by decide +kernel
theorem dL_isEnded_69 : decode cL_isEnded 69 = .ok (.aload_n 2, 1) := by decide +kernel
theorem dL_isEnded_70 : decode cL_isEnded 70 = .ok (.iconst 3, 1) := by decide +kernel
theorem dL_isEnded_71 : decode cL_isEnded 71 = .ok (.iaload, 1) := by decide +kernel
theorem dL_isEnded_72 : decode cL_isEnded 72 = .ok (.iconst 1, 1) := by decide +kernel
theorem dL_isEnded_73 : decode cL_isEnded 73 = .ok (.if_icmp .ne 12, 3) := by decide +kernel
theorem dL_isEnded_76 : decode cL_isEnded 76 = .ok (.aload_n 0, 1) := by decide +kernel
theorem dL_isEnded_77 : decode cL_isEnded 77 = .ok (.iload 6, 2) := by decide +kernel
theorem dL_isEnded_79 : decode cL_isEnded 79 = .ok (.invokevirtual 63, 3) := by decide +kernel
theorem dL_isEnded_82 : decode cL_isEnded 82 = .ok (.goto 4, 3) := by decide +kernel
theorem dL_isEnded_85 : decode cL_isEnded 85 = .ok (.iconst 0, 1) := by decide +kernel
theorem dL_isEnded_86 : decode cL_isEnded 86 = .ok (.iastore, 1) := by decide +kernel
theorem dL_isEnded_87 : decode cL_isEnded 87 = .ok (.aload 5, 2) := by decide +kernel
theorem dL_isEnded_89 : decode cL_isEnded 89 = .ok (.iload 6, 2) := by decide +kernel
theorem dL_isEnded_91 : decode cL_isEnded 91 = .ok (.aload_n 0, 1) := by decide +kernel
theorem dL_isEnded_92 : decode cL_isEnded 92 = .ok (.iload 6, 2) := by decide +kernel
theorem dL_isEnded_94 : decode cL_isEnded 94 = .ok (.invokevirtual 81, 3) := by decide +kernel
theorem dL_isEnded_97 : decode cL_isEnded 97 = .ok (.iastore, 1) := by decide +kernel
theorem dL_isEnded_98 : decode cL_isEnded 98 = .ok (.iinc 6 1, 3) := by decide +kernel
theorem dL_isEnded_101 : decode cL_isEnded 101 = .ok (.goto (-44), 3) := by decide +kernel
theorem dL_isEnded_104 : decode cL_isEnded 104 = .ok (.aload_n 0, 1) := by decide +kernel
theorem dL_isEnded_105 : decode cL_isEnded 105 = .ok (.bipush 8, 2) := by decide +kernel
theorem dL_isEnded_107 : decode cL_isEnded 107 = .ok (.iconst 0, 1) := by decide +kernel
theorem dL_isEnded_108 : decode cL_isEnded 108 = .ok (.iconst 0, 1) := by decide +kernel
theorem dL_isEnded_109 : decode cL_isEnded 109 = .ok (.iconst 0, 1) := by decide +kernel
theorem dL_isEnded_110 : decode cL_isEnded 110 = .ok (.invokestatic 123, 3) := by decide +kernel
theorem dL_isEnded_113 : decode cL_isEnded 113 = .ok (.istore 6, 2) := by decide +kernel
theorem dL_isEnded_115 : decode cL_isEnded 115 = .ok (.aload_n 2, 1) := by decide +kernel
theorem dL_isEnded_116 : decode cL_isEnded 116 = .ok (.iconst 3, 1) := by decide +kernel
theorem dL_isEnded_117 : decode cL_isEnded 117 = .ok (.iaload, 1) := by decide +kernel
theorem dL_isEnded_118 : decode cL_isEnded 118 = .ok (.ifCond .ne 16, 3) := by decide +kernel
theorem dL_isEnded_121 : decode cL_isEnded 121 = .ok (.iload 6, 2) := by decide +kernel
theorem dL_isEnded_123 : decode cL_isEnded 123 = .ok (.bipush (-10), 2) := by decide +kernel
theorem dL_isEnded_125 : decode cL_isEnded 125 = .ok (.if_icmp .ne 7, 3) := by decide +kernel
theorem dL_isEnded_128 : decode cL_isEnded 128 = .ok (.iconst 1, 1) := by decide +kernel
theorem dL_isEnded_129 : decode cL_isEnded 129 = .ok (.goto 4, 3) := by decide +kernel
theorem dL_isEnded_132 : decode cL_isEnded 132 = .ok (.iconst 0, 1) := by decide +kernel
theorem dL_isEnded_133 : decode cL_isEnded 133 = .ok (.ireturn, 1) := by decide +kernel
theorem dL_isEnded_134 : decode cL_isEnded 134 = .ok (.iload 6, 2) := by decide +kernel
theorem dL_isEnded_136 : decode cL_isEnded 136 = .ok (.iload_n 3, 1) := by decide +kernel
theorem dL_isEnded_137 : decode cL_isEnded 137 = .ok (.if_icmp .ne 7, 3) := by decide +kernel
theorem dL_isEnded_140 : decode cL_isEnded 140 = .ok (.iconst 1, 1) := by decide +kernel
theorem dL_isEnded_141 : decode cL_isEnded 141 = .ok (.goto 4, 3) := by decide +kernel
theorem dL_isEnded_144 : decode cL_isEnded 144 = .ok (.iconst 0, 1) := by decide +kernel
theorem dL_isEnded_145 : decode cL_isEnded 145 = .ok (.istore 7, 2) := by decide +kernel
theorem dL_isEnded_147 : decode cL_isEnded 147 = .ok (.iconst 0, 1) := by decide +kernel
theorem dL_isEnded_148 : decode cL_isEnded 148 = .ok (.istore 8, 2) := by decide +kernel
theorem dL_isEnded_150 : decode cL_isEnded 150 = .ok (.iload 8, 2) := by decide +kernel
theorem dL_isEnded_152 : decode cL_isEnded 152 = .ok (.aload_n 2, 1) := by decide +kernel
theorem dL_isEnded_153 : decode cL_isEnded 153 = .ok (.iconst 2, 1) := by decide +kernel
theorem dL_isEnded_154 : decode cL_isEnded 154 = .ok (.iaload, 1) := by decide +kernel
theorem dL_isEnded_155 : decode cL_isEnded 155 = .ok (.if_icmp .ge 157, 3) := by decide +kernel
theorem dL_isEnded_158 : decode cL_isEnded 158 = .ok (.iload 7, 2) := by decide +kernel
theorem dL_isEnded_160 : decode cL_isEnded 160 = .ok (.ifCond .eq 152, 3) := by decide +kernel
theorem dL_isEnded_163 : decode cL_isEnded 163 = .ok (.aload_n 1, 1) := by decide +kernel
theorem dL_isEnded_164 : decode cL_isEnded 164 = .ok (.bipush 6, 2) := by decide +kernel
theorem dL_isEnded_166 : decode cL_isEnded 166 = .ok (.iload 8, 2) := by decide +kernel
theorem dL_isEnded_168 : decode cL_isEnded 168 = .ok (.imul, 1) := by decide +kernel
theorem dL_isEnded_169 : decode cL_isEnded 169 = .ok (.iconst 5, 1) := by decide +kernel
theorem dL_isEnded_170 : decode cL_isEnded 170 = .ok (.iadd, 1) := by decide +kernel
theorem dL_isEnded_171 : decode cL_isEnded 171 = .ok (.iaload, 1) := by decide +kernel
theorem dL_isEnded_172 : decode cL_isEnded 172 = .ok (.iconst 1, 1) := by decide +kernel
theorem dL_isEnded_173 : decode cL_isEnded 173 = .ok (.if_icmp .eq 24, 3) := by decide +kernel
theorem dL_isEnded_176 : decode cL_isEnded 176 = .ok (.aload_n 1, 1) := by decide +kernel
theorem dL_isEnded_177 : decode cL_isEnded 177 = .ok (.bipush 6, 2) := by decide +kernel
theorem dL_isEnded_179 : decode cL_isEnded 179 = .ok (.iload 8, 2) := by decide +kernel
theorem dL_isEnded_181 : decode cL_isEnded 181 = .ok (.imul, 1) := by decide +kernel
theorem dL_isEnded_182 : decode cL_isEnded 182 = .ok (.iconst 2, 1) := by decide +kernel
theorem dL_isEnded_183 : decode cL_isEnded 183 = .ok (.iadd, 1) := by decide +kernel
theorem dL_isEnded_184 : decode cL_isEnded 184 = .ok (.iaload, 1) := by decide +kernel
theorem dL_isEnded_185 : decode cL_isEnded 185 = .ok (.aload_n 1, 1) := by decide +kernel
