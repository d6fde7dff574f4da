theorem dL_areKarts_138 : decode cL_areKarts 138 = .ok (.iconst 1, 1) := by decide +kernel
theorem dL_areKarts_139 : decode cL_areKarts 139 = .ok (.iload 5, 2) := by decide +kernel
theorem dL_areKarts_141 : decode cL_areKarts 141 = .ok (.iconst 0, 1) := by decide +kernel
theorem dL_areKarts_142 : decode cL_areKarts 142 = .ok (.invokestatic 100, 3) := by decide +kernel
theorem dL_areKarts_145 : decode cL_areKarts 145 = .ok (.sipush (-1000), 3) := by decide +kernel
theorem dL_areKarts_148 : decode cL_areKarts 148 = .ok (.if_icmp .ne 78, 3) := by decide +kernel
theorem dL_areKarts_151 : decode cL_areKarts 151 = .ok (.aload_n 0, 1) := by decide +kernel
theorem dL_areKarts_152 : decode cL_areKarts 152 = .ok (.iconst 2, 1) := by decide +kernel
theorem dL_areKarts_153 : decode cL_areKarts 153 = .ok (.iload 5, 2) := by decide +kernel
theorem dL_areKarts_155 : decode cL_areKarts 155 = .ok (.iconst 0, 1) := by decide +kernel
theorem dL_areKarts_156 : decode cL_areKarts 156 = .ok (.invokestatic 100, 3) := by decide +kernel
theorem dL_areKarts_159 : decode cL_areKarts 159 = .ok (.sipush (-1000), 3) := by decide +kernel
theorem dL_areKarts_162 : decode cL_areKarts 162 = .ok (.if_icmp .ne 64, 3) := by decide +kernel
theorem dL_areKarts_165 : decode cL_areKarts 165 = .ok (.aload_n 0, 1) := by decide +kernel
theorem dL_areKarts_166 : decode cL_areKarts 166 = .ok (.iconst 3, 1) := by decide +kernel
theorem dL_areKarts_167 : decode cL_areKarts 167 = .ok (.iload 5, 2) := by decide +kernel
theorem dL_areKarts_169 : decode cL_areKarts 169 = .ok (.iconst 0, 1) := by decide +kernel
theorem dL_areKarts_170 : decode cL_areKarts 170 = .ok (.invokestatic 100, 3) := by decide +kernel
theorem dL_areKarts_173 : decode cL_areKarts 173 = .ok (.sipush (-1000), 3) := by decide +kernel
theorem dL_areKarts_176 : decode cL_areKarts 176 = .ok (.if_icmp .ne 50, 3) := by decide +kernel
theorem dL_areKarts_179 : decode cL_areKarts 179 = .ok (.aload_n 0, 1) := by decide +kernel
theorem dL_areKarts_180 : decode cL_areKarts 180 = .ok (.iconst 4, 1) := by decide +kernel
theorem dL_areKarts_181 : decode cL_areKarts 181 = .ok (.iload 5, 2) := by decide +kernel
theorem dL_areKarts_183 : decode cL_areKarts 183 = .ok (.iconst 0, 1) := by decide +kernel
theorem dL_areKarts_184 : decode cL_areKarts 184 = .ok (.invokestatic 100, 3) := by decide +kernel
theorem dL_areKarts_187 : decode cL_areKarts 187 = .ok (.sipush (-1000), 3) := by decide +kernel
theorem dL_areKarts_190 : decode cL_areKarts 190 = .ok (.if_icmp .ne 36, 3) := by decide +kernel
theorem dL_areKarts_193 : decode cL_areKarts 193 = .ok (.aload_n 0, 1) := by decide +kernel
theorem dL_areKarts_194 : decode cL_areKarts 194 = .ok (.iconst 5, 1) := by decide +kernel
theorem dL_areKarts_195 : decode cL_areKarts 195 = .ok (.iload 5, 2) := by decide +kernel
theorem dL_areKarts_197 : decode cL_areKarts 197 = .ok (.iconst 0, 1) := by decide +kernel
theorem dL_areKarts_198 : decode cL_areKarts 198 = .ok (.invokestatic 100, 3) := by decide +kernel
theorem dL_areKarts_201 : decode cL_areKarts 201 = .ok (.sipush (-1000), 3) := by decide +kernel
theorem dL_areKarts_204 : decode cL_areKarts 204 = .ok (.if_icmp .ne 22, 3) := by decide +kernel
theorem dL_areKarts_207 : decode cL_areKarts 207 = .ok (.aload_n 0, 1) := by decide +kernel
theorem dL_areKarts_208 : decode cL_areKarts 208 = .ok (.bipush 6, 2) := by decide +kernel
theorem dL_areKarts_210 : decode cL_areKarts 210 = .ok (.iload 5, 2) := by decide +kernel
theorem dL_areKarts_212 : decode cL_areKarts 212 = .ok (.iconst 0, 1) := by decide +kernel
theorem dL_areKarts_213 : decode cL_areKarts 213 = .ok (.invokestatic 100, 3) := by decide +kernel
theorem dL_areKarts_216 : decode cL_areKarts 216 = .ok (.sipush (-1000), 3) := by decide +kernel
theorem dL_areKarts_219 : decode cL_areKarts 219 = .ok (.if_icmp .ne 7, 3) := by decide +kernel
theorem dL_areKarts_222 : decode cL_areKarts 222 = .ok (.iconst 1, 1) := by decide +kernel
theorem dL_areKarts_223 : decode cL_areKarts 223 = .ok (.goto 4, 3) := by decide +kernel
theorem dL_areKarts_226 : decode cL_areKarts 226 = .ok (.iconst 0, 1) := by decide +kernel
theorem dL_areKarts_227 : decode cL_areKarts 227 = .ok (.istore 4, 2) := by decide +kernel
theorem dL_areKarts_229 : decode cL_areKarts 229 = .ok (.goto 165, 3) := by decide +kernel
theorem dL_areKarts_232 : decode cL_areKarts 232 = .ok (.aload_n 0, 1) := by decide +kernel
theorem dL_areKarts_233 : decode cL_areKarts 233 = .ok (.iload 5, 2) := by decide +kernel
theorem dL_areKarts_235 : decode cL_areKarts 235 = .ok (.invokevirtual 63, 3) := by decide +kernel
theorem dL_areKarts_238 : decode cL_areKarts 238 = .ok (.istore 8, 2) := by decide +kernel
theorem dL_areKarts_240 : decode cL_areKarts 240 = .ok (.iload_n 3, 1) := by decide +kernel
theorem dL_areKarts_241 : decode cL_areKarts 241 = .ok (.iconst 1, 1) := by decide +kernel
theorem dL_areKarts_242 : decode cL_areKarts 242 = .ok (.iload 8, 2) := by decide +kernel
theorem dL_areKarts_244 : decode cL_areKarts 244 = .ok (.ishl, 1) := by decide +kernel
theorem dL_areKarts_245 : decode cL_areKarts 245 = .ok (.ior, 1) := by decide +kernel
theorem dL_areKarts_246 : decode cL_areKarts 246 = .ok (.istore_n 3, 1) := by decide +kernel
theorem dL_areKarts_247 : decode cL_areKarts 247 = .ok (.aload_n 0, 1) := by decide +kernel
theorem dL_areKarts_248 : decode cL_areKarts 248 = .ok (.iload 5, 2) := by decide +kernel
theorem dL_areKarts_250 : decode cL_areKarts 250 = .ok (.invokevirtual 69, 3) := by decide +kernel
theorem dL_areKarts_253 : decode cL_areKarts 253 = .ok (.istore 9, 2) := by decide +kernel
theorem dL_areKarts_255 : decode cL_areKarts 255 = .ok (.iload 6, 2) := by decide +kernel
theorem dL_areKarts_257 : decode cL_areKarts 257 = .ok (.iconst (-1), 1) := by decide +kernel
theorem dL_areKarts_258 : decode cL_areKarts 258 = .ok (.if_icmp .lt 133, 3) := by decide +kernel
theorem dL_areKarts_261 : decode cL_areKarts 261 = .ok (.iload 6, 2) := by decide +kernel
theorem dL_areKarts_263 : decode cL_areKarts 263 = .ok (.iconst 4, 1) := by decide +kernel
theorem dL_areKarts_264 : decode cL_areKarts 264 = .ok (.if_icmp .ge 127, 3) := by decide +kernel
theorem dL_areKarts_267 : decode cL_areKarts 267 = .ok (.iload 7, 2) := by decide +kernel
theorem dL_areKarts_269 : decode cL_areKarts 269 = .ok (.ifCond .lt 122, 3) := by decide +kernel
theorem dL_areKarts_272 : decode cL_areKarts 272 = .ok (.iload 7, 2) := by decide +kernel
theorem dL_areKarts_274 : decode cL_areKarts 274 = .ok (.bipush 6, 2) := by decide +kernel
theorem dL_areKarts_276 : decode cL_areKarts 276 = .ok (.if_icmp .ge 115, 3) := by decide +kernel
theorem dL_areKarts_279 : decode cL_areKarts 279 = .ok (.aload_n 0, 1) := by decide +kernel
theorem dL_areKarts_280 : decode cL_areKarts 280 = .ok (.iload 5, 2) := by decide +kernel
theorem dL_areKarts_282 : decode cL_areKarts 282 = .ok (.invokevirtual 54, 3) := by decide +kernel
theorem dL_areKarts_285 : decode cL_areKarts 285 = .ok (.aload_n 1, 1) := by decide +kernel
theorem dL_areKarts_286 : decode cL_areKarts 286 = .ok (.bipush 6, 2) := by decide +kernel
theorem dL_areKarts_288 : decode cL_areKarts 288 = .ok (.iload 5, 2) := by decide +kernel
theorem dL_areKarts_290 : decode cL_areKarts 290 = .ok (.imul, 1) := by decide +kernel
theorem dL_areKarts_291 : decode cL_areKarts 291 = .ok (.iconst 1, 1) := by decide +kernel
theorem dL_areKarts_292 : decode cL_areKarts 292 = .ok (.iadd, 1) := by decide +kernel
theorem dL_areKarts_293 : decode cL_areKarts 293 = .ok (.iaload, 1) := by decide +kernel
theorem dL_areKarts_294 : decode cL_areKarts 294 = .ok (.if_icmp .ne 97, 3) := by decide +kernel
theorem dL_areKarts_297 : decode cL_areKarts 297 = .ok (.aload_n 0, 1) := by decide +kernel
theorem dL_areKarts_298 : decode cL_areKarts 298 = .ok (.iload 5, 2) := by decide +kernel
theorem dL_areKarts_300 : decode cL_areKarts 300 = .ok (.invokevirtual 57, 3) := by decide +kernel
theorem dL_areKarts_303 : decode cL_areKarts 303 = .ok (.aload_n 1, 1) := by decide +kernel
theorem dL_areKarts_304 : decode cL_areKarts 304 = .ok (.bipush 6, 2) := by decide +kernel
theorem dL_areKarts_306 : decode cL_areKarts 306 = .ok (.iload 5, 2) := by decide +kernel
theorem dL_areKarts_308 : decode cL_areKarts 308 = .ok (.imul, 1) := by decide +kernel
theorem dL_areKarts_309 : decode cL_areKarts 309 = .ok (.iconst 2, 1) := by decide +kernel
theorem dL_areKarts_310 : decode cL_areKarts 310 = .ok (.iadd, 1) := by decide +kernel
theorem dL_areKarts_311 : decode cL_areKarts 311 = .ok (.iaload, 1) := by decide +kernel
theorem dL_areKarts_312 : decode cL_areKarts 312 = .ok (.aload_n 1, 1) := by decide +kernel
theorem dL_areKarts_313 : decode cL_areKarts 313 = .ok (.bipush 6, 2) := by decide +kernel
theorem dL_areKarts_315 : decode cL_areKarts 315 = .ok (.iload 5, 2) := by decide +kernel
theorem dL_areKarts_317 : decode cL_areKarts 317 = .ok (.imul, 1) := by decide +kernel
theorem dL_areKarts_318 : decode cL_areKarts 318 = .ok (.iconst 3, 1) := by decide +kernel
theorem dL_areKarts_319 : decode cL_areKarts 319 = .ok (.iadd, 1) := by decide +kernel
theorem dL_areKarts_320 : decode cL_areKarts 320 = .ok (.iaload, 1) := by decide +kernel
theorem dL_areKarts_321 : decode cL_areKarts 321 = .ok (.isub, 1) := by decide +kernel
theorem dL_areKarts_322 : decode cL_areKarts 322 = .ok (.if_icmp .ne 69, 3) := by decide +kernel
theorem dL_areKarts_325 : decode cL_areKarts 325 = .ok (.aload_n 0, 1) := by decide +kernel
theorem dL_areKarts_326 : decode cL_areKarts 326 = .ok (.iload 5, 2) := by decide +kernel
theorem dL_areKarts_328 : decode cL_areKarts 328 = .ok (.invokevirtual 60, 3) := by decide +kernel
theorem dL_areKarts_331 : decode cL_areKarts 331 = .ok (.aload_n 2, 1) := by decide +kernel
theorem dL_areKarts_332 : decode cL_areKarts 332 = .ok (.iconst 1, 1) := by decide +kernel
theorem dL_areKarts_333 : decode cL_areKarts 333 = .ok (.iaload, 1) := by decide +kernel
theorem dL_areKarts_334 : decode cL_areKarts 334 = .ok (.aload_n 1, 1) := by decide +kernel
theorem dL_areKarts_335 : decode cL_areKarts 335 = .ok (.bipush 6, 2) := by decide +kernel
theorem dL_areKarts_337 : decode cL_areKarts 337 = .ok (.iload 5, 2) := by decide +kernel
theorem dL_areKarts_339 : decode cL_areKarts 339 = .ok (.imul, 1) := by decide +kernel
theorem dL_areKarts_340 : decode cL_areKarts 340 = .ok (.iconst 4, 1) := by decide +kernel
theorem dL_areKarts_341 : decode cL_areKarts 341 = .ok (.iadd, 1) := by decide +kernel
theorem dL_areKarts_342 : decode cL_areKarts 342 = .ok (.iaload, 1) := by decide +kernel
theorem dL_areKarts_343 : decode cL_areKarts 343 = .ok (.iconst (-1), 1) := by decide +kernel
theorem dL_areKarts_344 : decode cL_areKarts 344 = .ok (.ixor, 1) := by decide +kernel
theorem dL_areKarts_345 : decode cL_areKarts 345 = .ok (.iand, 1) := by decide +kernel
theorem dL_areKarts_346 : decode cL_areKarts 346 = .ok (.if_icmp .ne 45, 3) := by decide +kernel
theorem dL_areKarts_349 : decode cL_areKarts 349 = .ok (.iload 8, 2) := by decide +kernel
theorem dL_areKarts_351 : decode cL_areKarts 351 = .ok (.aload_n 0, 1) := by decide +kernel
theorem dL_areKarts_352 : decode cL_areKarts 352 = .ok (.iload 5, 2) := by decide +kernel
theorem dL_areKarts_354 : decode cL_areKarts 354 = .ok (.invokevirtual 66, 3) := by decide +kernel
theorem dL_areKarts_357 : decode cL_areKarts 357 = .ok (.if_icmp .ne 34, 3) := by decide +kernel
theorem dL_areKarts_360 : decode cL_areKarts 360 = .ok (.iload 8, 2) := by decide +kernel
theorem dL_areKarts_362 : decode cL_areKarts 362 = .ok (.ifCond .lt 29, 3) := by decide +kernel
theorem dL_areKarts_365 : decode cL_areKarts 365 = .ok (.iload 9, 2) := by decide +kernel
theorem dL_areKarts_367 : decode cL_areKarts 367 = .ok (.ifCond .lt 24, 3) := by decide +kernel
theorem dL_areKarts_370 : decode cL_areKarts 370 = .ok (.iload 9, 2) := by decide +kernel
theorem dL_areKarts_372 : decode cL_areKarts 372 = .ok (.bipush 26, 2) := by decide +kernel
theorem dL_areKarts_374 : decode cL_areKarts 374 = .ok (.if_icmp .ge 17, 3) := by decide +kernel
theorem dL_areKarts_377 : decode cL_areKarts 377 = .ok (.iload 8, 2) := by decide +kernel
theorem dL_areKarts_379 : decode cL_areKarts 379 = .ok (.ifCond .gt 8, 3) := by decide +kernel
theorem dL_areKarts_382 : decode cL_areKarts 382 = .ok (.iload 9, 2) := by decide +kernel
theorem dL_areKarts_384 : decode cL_areKarts 384 = .ok (.ifCond .ne 7, 3) := by decide +kernel
theorem dL_areKarts_387 : decode cL_areKarts 387 = .ok (.iconst 1, 1) := by decide +kernel
theorem dL_areKarts_388 : decode cL_areKarts 388 = .ok (.goto 4, 3) := by decide +kernel
theorem dL_areKarts_391 : decode cL_areKarts 391 = .ok (.iconst 0, 1) := by decide +kernel
theorem dL_areKarts_392 : decode cL_areKarts 392 = .ok (.istore 4, 2) := by decide +kernel
theorem dL_areKarts_394 : decode cL_areKarts 394 = .ok (.iinc 5 1, 3) := by decide +kernel
theorem dL_areKarts_397 : decode cL_areKarts 397 = .ok (.goto (-306), 3) := by decide +kernel
theorem dL_areKarts_400 : decode cL_areKarts 400 = .ok (.iload 4, 2) := by decide +kernel
theorem dL_areKarts_402 : decode cL_areKarts 402 = .ok (.ifCond .eq 24, 3) := by decide +kernel
theorem dL_areKarts_405 : decode cL_areKarts 405 = .ok (.aload_n 2, 1) := by decide +kernel
theorem dL_areKarts_406 : decode cL_areKarts 406 = .ok (.iconst 3, 1) := by decide +kernel
theorem dL_areKarts_407 : decode cL_areKarts 407 = .ok (.iaload, 1) := by decide +kernel
theorem dL_areKarts_408 : decode cL_areKarts 408 = .ok (.ifCond .eq 14, 3) := by decide +kernel
theorem dL_areKarts_411 : decode cL_areKarts 411 = .ok (.iload_n 3, 1) := by decide +kernel
theorem dL_areKarts_412 : decode cL_areKarts 412 = .ok (.iconst 1, 1) := by decide +kernel
theorem dL_areKarts_413 : decode cL_areKarts 413 = .ok (.aload_n 2, 1) := by decide +kernel
theorem dL_areKarts_414 : decode cL_areKarts 414 = .ok (.iconst 2, 1) := by decide +kernel
theorem dL_areKarts_415 : decode cL_areKarts 415 = .ok (.iaload, 1) := by decide +kernel
theorem dL_areKarts_416 : decode cL_areKarts 416 = .ok (.ishl, 1) := by decide +kernel
theorem dL_areKarts_417 : decode cL_areKarts 417 = .ok (.iconst 1, 1) := by decide +kernel
theorem dL_areKarts_418 : decode cL_areKarts 418 = .ok (.isub, 1) := by decide +kernel
theorem dL_areKarts_419 : decode cL_areKarts 419 = .ok (.if_icmp .ne 7, 3) := by decide +kernel
theorem dL_areKarts_422 : decode cL_areKarts 422 = .ok (.iconst 1, 1) := by decide +kernel
theorem dL_areKarts_423 : decode cL_areKarts 423 = .ok (.goto 4, 3) := by decide +kernel
theorem dL_areKarts_426 : decode cL_areKarts 426 = .ok (.iconst 0, 1) := by decide +kernel
theorem dL_areKarts_427 : decode cL_areKarts 427 = .ok (.ireturn, 1) := by decide +kernel
theorem dL_worth_0 : decode cL_worth 0 = .ok (.iload_n 0, 1) := by decide +kernel
theorem dL_worth_1 : decode cL_worth 1 = .ok (.ifCond .ne 8, 3) := by decide +kernel
theorem dL_worth_4 : decode cL_worth 4 = .ok (.bipush 10, 2) := by decide +kernel
theorem dL_worth_6 : decode cL_worth 6 = .ok (.goto 42, 3) := by decide +kernel
theorem dL_worth_9 : decode cL_worth 9 = .ok (.iload_n 0, 1) := by decide +kernel
theorem dL_worth_10 : decode cL_worth 10 = .ok (.iconst 1, 1) := by decide +kernel
theorem dL_worth_11 : decode cL_worth 11 = .ok (.if_icmp .ne 8, 3) := by decide +kernel
theorem dL_worth_14 : decode cL_worth 14 = .ok (.bipush 8, 2) := by decide +kernel
theorem dL_worth_16 : decode cL_worth 16 = .ok (.goto 32, 3) := by decide +kernel
theorem dL_worth_19 : decode cL_worth 19 = .ok (.iload_n 0, 1) := by decide +kernel
theorem dL_worth_20 : decode cL_worth 20 = .ok (.iconst 2, 1) := by decide +kernel
theorem dL_worth_21 : decode cL_worth 21 = .ok (.if_icmp .ne 8, 3) := by decide +kernel
theorem dL_worth_24 : decode cL_worth 24 = .ok (.bipush 6, 2) := by decide +kernel
theorem dL_worth_26 : decode cL_worth 26 = .ok (.goto 22, 3) := by decide +kernel
theorem dL_worth_29 : decode cL_worth 29 = .ok (.iload_n 0, 1) := by decide +kernel
theorem dL_worth_30 : decode cL_worth 30 = .ok (.iconst 3, 1) := by decide +kernel
theorem dL_worth_31 : decode cL_worth 31 = .ok (.if_icmp .ne 7, 3) := by decide +kernel
theorem dL_worth_34 : decode cL_worth 34 = .ok (.iconst 5, 1) := by decide +kernel
theorem dL_worth_35 : decode cL_worth 35 = .ok (.goto 13, 3) := by decide +kernel
theorem dL_worth_38 : decode cL_worth 38 = .ok (.iload_n 0, 1) := by decide +kernel
theorem dL_worth_39 : decode cL_worth 39 = .ok (.iconst 4, 1) := by decide +kernel
theorem dL_worth_40 : decode cL_worth 40 = .ok (.if_icmp .ne 7, 3) := by decide +kernel
theorem dL_worth_43 : decode cL_worth 43 = .ok (.iconst 4, 1) := by decide +kernel
theorem dL_worth_44 : decode cL_worth 44 = .ok (.goto 4, 3) := by decide +kernel
theorem dL_worth_47 : decode cL_worth 47 = .ok (.iconst 3, 1) := by decide +kernel
theorem dL_worth_48 : decode cL_worth 48 = .ok (.ireturn, 1) := by decide +kernel
set_option maxRecDepth 20000 in
theorem ggL_isCup_X5_races : GoodIn wsL_isCup wsX5_races := goodIn_r _ [5, 6, 7, 8, 9, 10, 11, 12, 288, 289, 290, 291, 292, 293, 294, 295, 296, 297, 298, 299, 300, 301] (by decide +kernel) (by decide +kernel)
set_option maxRecDepth 20000 in
theorem gL_isCup_X5_races : GoodIn wsL_isCup (wsV RL 114 RX5 yX5_races wsX5_races) := goodIn_app (goodIn_of _ (by decide +kernel)) ggL_isCup_X5_races
set_option maxRecDepth 20000 in
theorem ggL_isCup_L_asks : GoodIn wsL_isCup wsL_asks := goodIn_ca (goodIn_ca (goodIn_r _ [16, 17, 18, 19, 20, 21, 4, 22, 23, 24, 25, 26, 27, 28, 29, 30, 31, 32, 33, 34, 35, 36, 37, 38, 39, 40, 41, 42, 43, 44, 45, 46, 47, 48, 49, 50, 51, 52, 53, 54, 55, 56, 57, 58, 59, 60, 61, 62, 63, 64, 65, 66, 67, 68, 69, 70, 71, 72, 73, 74, 75, 76, 77, 78, 79, 80, 81, 82, 83, 84, 85, 86, 87, 88, 89, 90, 91, 92, 93, 94, 95, 96, 97, 98, 99, 100, 101, 102, 103, 104, 105, 106, 107, 108, 109, 110, 111, 112, 113, 114, 115, 116, 117, 118, 119, 120, 121, 122, 123, 124, 125, 126, 127, 128, 129, 130, 131, 132, 133, 134, 135, 136, 137, 138, 139, 140, 141, 142, 143, 144, 145, 146, 147, 148, 149, 150, 151, 152, 153, 154, 155, 156, 157, 158, 159, 160, 161, 162, 163, 164, 165, 166, 167, 168, 169, 170, 171, 172, 173, 174, 175, 176, 177, 178, 179, 180, 181, 182, 183, 184, 185, 186, 187, 188, 189, 190, 191, 192, 193, 194, 195, 196, 197, 198, 199, 200, 201, 202, 203, 204, 205, 206, 207, 208, 209, 210, 211, 212, 213, 214, 215, 216, 217, 218, 219, 220, 221, 222, 223, 224, 225, 226, 6, 7, 8, 9, 10, 11, 12, 227, 228, 229, 230, 231, 232, 233, 234, 235, 236, 237, 238, 239, 240, 241, 242, 243, 244, 245, 246, 247, 248, 249, 250, 251, 252, 253, 254, 255, 256, 257, 258, 259, 260, 261, 262, 263, 264, 265, 266, 267, 268, 269, 270, 271, 272, 273, 274, 275, 276, 277, 278, 279, 280, 288, 289, 290, 291, 292, 293, 294, 295, 296, 297, 302, 303, 304, 305, 306, 307, 308, 309, 310, 311, 312, 313, 314, 315, 316, 317, 318, 319, 320, 321, 322, 323, 298, 299, 300, 301] (by decide +kernel) (by decide +kernel)) (goodIn_sub (fun _ h => List.mem_cons_of_mem _ (List.mem_append_left _ (List.mem_append_right _ h))) (by decide +kernel))) (goodIn_sub (fun _ h => List.mem_cons_of_mem _ (List.mem_append_right _ h)) (by decide +kernel))
set_option maxRecDepth 20000 in
theorem gL_isCup_L_asks : GoodIn wsL_isCup (va_wsS RL 100 yL_asks wsL_asks) := goodIn_app (goodIn_of _ (by decide +kernel)) ggL_isCup_L_asks
set_option maxRecDepth 20000 in
theorem ggL_isCup_X5_place : GoodIn wsL_isCup wsX5_place := goodIn_ca (goodIn_r _ [226, 28, 29, 6, 7, 8, 9, 10, 11, 12, 46, 47, 48, 4, 49, 50, 227, 228, 229, 230, 231, 288, 289, 290, 291, 292, 293, 294, 295, 296, 297, 298, 299, 300, 301] (by decide +kernel) (by decide +kernel)) (goodIn_sub (fun _ h => List.mem_cons_of_mem _ (List.mem_append_left _ (List.mem_append_right _ h))) (by decide +kernel))
set_option maxRecDepth 20000 in
theorem gL_isCup_X5_place : GoodIn wsL_isCup (wsV RL 78 RX5 yX5_place wsX5_place) := goodIn_app (goodIn_of _ (by decide +kernel)) ggL_isCup_X5_place
set_option maxRecDepth 20000 in
theorem ggL_isCup_L_worth : GoodIn wsL_isCup wsL_worth := goodIn_r _ [283] (by decide +kernel) (by decide +kernel)
set_option maxRecDepth 20000 in
theorem gL_isCup_L_worth : GoodIn wsL_isCup (va_wsS RL 117 yL_worth wsL_worth) := goodIn_app (goodIn_of _ (by decide +kernel)) ggL_isCup_L_worth
set_option maxRecDepth 20000 in
theorem ggL_isCup_X5_standing : GoodIn wsL_isCup wsX5_standing := goodIn_ca (goodIn_r _ [258, 6, 50, 46, 47, 48, 4, 49, 28, 29, 259, 260, 261, 10, 262, 263, 264, 265, 266, 267, 237, 238, 239, 12, 240, 241, 242, 243, 244, 245, 268, 269, 270, 271, 231, 288, 289, 290, 291, 292, 293, 294, 295, 296, 297, 298, 299, 300, 301] (by decide +kernel) (by decide +kernel)) (goodIn_sub (fun _ h => List.mem_cons_of_mem _ (List.mem_append_left _ (List.mem_append_right _ h))) (by decide +kernel))
set_option maxRecDepth 20000 in
theorem gL_isCup_X5_standing : GoodIn wsL_isCup (wsV RL 87 RX5 yX5_standing wsX5_standing) := goodIn_app (goodIn_of _ (by decide +kernel)) ggL_isCup_X5_standing
set_option maxRecDepth 20000 in
theorem ggL_isCup_X5_points : GoodIn wsL_isCup wsX5_points := goodIn_ca (goodIn_r _ [235, 6, 46, 47, 48, 4, 49, 28, 29, 50, 236, 237, 238, 10, 239, 12, 240, 241, 242, 243, 244, 245, 288, 289, 290, 291, 292, 293, 294, 295, 296, 297, 298, 299, 300, 301] (by decide +kernel) (by decide +kernel)) (goodIn_sub (fun _ h => List.mem_cons_of_mem _ (List.mem_append_left _ (List.mem_append_right _ h))) (by decide +kernel))
set_option maxRecDepth 20000 in
theorem gL_isCup_X5_points : GoodIn wsL_isCup (wsV RL 81 RX5 yX5_points wsX5_points) := goodIn_app (goodIn_of _ (by decide +kernel)) ggL_isCup_X5_points
set_option maxRecDepth 20000 in
theorem ggL_isCup_X5_textAt : GoodIn wsL_isCup wsX5_textAt := goodIn_ca (goodIn_r _ [275, 28, 29, 50, 6, 276, 277, 278, 10, 279, 280, 260, 261, 262, 263, 264, 265, 266, 267, 237, 238, 239, 12, 240, 241, 242, 243, 244, 245, 268, 269, 270, 271, 231, 288, 289, 290, 291, 292, 293, 294, 295, 296, 297, 298, 299, 300, 301] (by decide +kernel) (by decide +kernel)) (goodIn_sub (fun _ h => List.mem_cons_of_mem _ (List.mem_append_left _ (List.mem_append_right _ h))) (by decide +kernel))
set_option maxRecDepth 20000 in
theorem gL_isCup_X5_textAt : GoodIn wsL_isCup (wsV RL 90 RX5 yX5_textAt wsX5_textAt) := goodIn_app (goodIn_of _ (by decide +kernel)) ggL_isCup_X5_textAt
set_option maxRecDepth 20000 in
theorem ggL_isCup_X5_teamPoints : GoodIn wsL_isCup wsX5_teamPoints := goodIn_ca (goodIn_r _ [249, 50, 250, 6, 251, 252, 253, 4, 254, 28, 29, 236, 237, 238, 10, 239, 12, 240, 241, 242, 243, 244, 245, 288, 289, 290, 291, 292, 293, 294, 295, 296, 297, 298, 299, 300, 301] (by decide +kernel) (by decide +kernel)) (goodIn_sub (fun _ h => List.mem_cons_of_mem _ (List.mem_append_left _ (List.mem_append_right _ h))) (by decide +kernel))
set_option maxRecDepth 20000 in
theorem gL_isCup_X5_teamPoints : GoodIn wsL_isCup (wsV RL 84 RX5 yX5_teamPoints wsX5_teamPoints) := goodIn_app (goodIn_of _ (by decide +kernel)) ggL_isCup_X5_teamPoints
set_option maxRecDepth 20000 in
theorem ggL_isCup_X5_textLength : GoodIn wsL_isCup wsX5_textLength := goodIn_r _ [287, 50, 288, 289, 290, 291, 292, 293, 294, 295, 296, 297] (by decide +kernel) (by decide +kernel)
set_option maxRecDepth 20000 in
theorem gL_isCup_X5_textLength : GoodIn wsL_isCup (wsV RL 120 RX5 yX5_textLength wsX5_textLength) := goodIn_app (goodIn_of _ (by decide +kernel)) ggL_isCup_X5_textLength
theorem dL_isCup_0 : decode cL_isCup 0 = .ok (.iconst 0, 1) := by decide +kernel
theorem dL_isCup_1 : decode cL_isCup 1 = .ok (.istore_n 3, 1) := by decide +kernel
theorem dL_isCup_2 : decode cL_isCup 2 = .ok (.iconst 0, 1) := by decide +kernel
theorem dL_isCup_3 : decode cL_isCup 3 = .ok (.istore 4, 2) := by decide +kernel
theorem dL_isCup_5 : decode cL_isCup 5 = .ok (.aload_n 0, 1) := by decide +kernel
theorem dL_isCup_6 : decode cL_isCup 6 = .ok (.invokevirtual 114, 3) := by decide +kernel
theorem dL_isCup_9 : decode cL_isCup 9 = .ok (.aload_n 2, 1) := by decide +kernel
theorem dL_isCup_10 : decode cL_isCup 10 = .ok (.bipush 6, 2) := by decide +kernel
theorem dL_isCup_12 : decode cL_isCup 12 = .ok (.iaload, 1) := by decide +kernel
theorem dL_isCup_13 : decode cL_isCup 13 = .ok (.if_icmp .ne 84, 3) := by decide +kernel
theorem dL_isCup_16 : decode cL_isCup 16 = .ok (.aload_n 0, 1) := by decide +kernel
theorem dL_isCup_17 : decode cL_isCup 17 = .ok (.bipush 9, 2) := by decide +kernel
theorem dL_isCup_19 : decode cL_isCup 19 = .ok (.aload_n 2, 1) := by decide +kernel
theorem dL_isCup_20 : decode cL_isCup 20 = .ok (.bipush 6, 2) := by decide +kernel
theorem dL_isCup_22 : decode cL_isCup 22 = .ok (.iaload, 1) := by decide +kernel
theorem dL_isCup_23 : decode cL_isCup 23 = .ok (.iconst 0, 1) := by decide +kernel
theorem dL_isCup_24 : decode cL_isCup 24 = .ok (.invokestatic 100, 3) := by decide +kernel
theorem dL_isCup_27 : decode cL_isCup 27 = .ok (.sipush (-3000), 3) := by decide +kernel
theorem dL_isCup_30 : decode cL_isCup 30 = .ok (.if_icmp .ne 67, 3) := by decide +kernel
theorem dL_isCup_33 : decode cL_isCup 33 = .ok (.aload_n 0, 1) := by decide +kernel
theorem dL_isCup_34 : decode cL_isCup 34 = .ok (.bipush 9, 2) := by decide +kernel
theorem dL_isCup_36 : decode cL_isCup 36 = .ok (.iconst 0, 1) := by decide +kernel
theorem dL_isCup_37 : decode cL_isCup 37 = .ok (.aload_n 2, 1) := by decide +kernel
theorem dL_isCup_38 : decode cL_isCup 38 = .ok (.iconst 2, 1) := by decide +kernel
theorem dL_isCup_39 : decode cL_isCup 39 = .ok (.iaload, 1) := by decide +kernel
theorem dL_isCup_40 : decode cL_isCup 40 = .ok (.invokestatic 100, 3) := by decide +kernel
theorem dL_isCup_43 : decode cL_isCup 43 = .ok (.sipush (-3000), 3) := by decide +kernel
theorem dL_isCup_46 : decode cL_isCup 46 = .ok (.if_icmp .ne 51, 3) := by decide +kernel
theorem dL_isCup_49 : decode cL_isCup 49 = .ok (.aload_n 0, 1) := by decide +kernel
theorem dL_isCup_50 : decode cL_isCup 50 = .ok (.bipush 10, 2) := by decide +kernel
theorem dL_isCup_52 : decode cL_isCup 52 = .ok (.aload_n 2, 1) := by decide +kernel
theorem dL_isCup_53 : decode cL_isCup 53 = .ok (.iconst 2, 1) := by decide +kernel
theorem dL_isCup_54 : decode cL_isCup 54 = .ok (.iaload, 1) := by decide +kernel
theorem dL_isCup_55 : decode cL_isCup 55 = .ok (.iconst 0, 1) := by decide +kernel
theorem dL_isCup_56 : decode cL_isCup 56 = .ok (.invokestatic 100, 3) := by decide +kernel
theorem dL_isCup_59 : decode cL_isCup 59 = .ok (.sipush (-3000), 3) := by decide +kernel
theorem dL_isCup_62 : decode cL_isCup 62 = .ok (.if_icmp .ne 35, 3) := by decide +kernel
theorem dL_isCup_65 : decode cL_isCup 65 = .ok (.aload_n 0, 1) := by decide +kernel
theorem dL_isCup_66 : decode cL_isCup 66 = .ok (.bipush 11, 2) := by decide +kernel
theorem dL_isCup_68 : decode cL_isCup 68 = .ok (.iconst 4, 1) := by decide +kernel
theorem dL_isCup_69 : decode cL_isCup 69 = .ok (.iconst 0, 1) := by decide +kernel
theorem dL_isCup_70 : decode cL_isCup 70 = .ok (.invokestatic 100, 3) := by decide +kernel
theorem dL_isCup_73 : decode cL_isCup 73 = .ok (.sipush (-3000), 3) := by decide +kernel
theorem dL_isCup_76 : decode cL_isCup 76 = .ok (.if_icmp .ne 21, 3) := by decide +kernel
theorem dL_isCup_79 : decode cL_isCup 79 = .ok (.aload_n 0, 1) := by decide +kernel
theorem dL_isCup_80 : decode cL_isCup 80 = .ok (.bipush 12, 2) := by decide +kernel
theorem dL_isCup_82 : decode cL_isCup 82 = .ok (.iconst (-1), 1) := by decide +kernel
theorem dL_isCup_83 : decode cL_isCup 83 = .ok (.iconst 0, 1) := by decide +kernel
theorem dL_isCup_84 : decode cL_isCup 84 = .ok (.invokestatic 100, 3) := by decide +kernel
theorem dL_isCup_87 : decode cL_isCup 87 = .ok (.sipush (-3000), 3) := by decide +kernel
theorem dL_isCup_90 : decode cL_isCup 90 = .ok (.if_icmp .ne 7, 3) := by decide +kernel
theorem dL_isCup_93 : decode cL_isCup 93 = .ok (.iconst 1, 1) := by decide +kernel
theorem dL_isCup_94 : decode cL_isCup 94 = .ok (.goto 4, 3) := by decide +kernel
theorem dL_isCup_97 : decode cL_isCup 97 = .ok (.iconst 0, 1) := by decide +kernel
theorem dL_isCup_98 : decode cL_isCup 98 = .ok (.istore 5, 2) := by decide +kernel
theorem dL_isCup_100 : decode cL_isCup 100 = .ok (.iconst 0, 1) := by decide +kernel
theorem dL_isCup_101 : decode cL_isCup 101 = .ok (.istore 6, 2) := by decide +kernel
theorem dL_isCup_103 : decode cL_isCup 103 = .ok (.iload 6, 2) := by decide +kernel
theorem dL_isCup_105 : decode cL_isCup 105 = .ok (.aload_n 2, 1) := by decide +kernel
theorem dL_isCup_106 : decode cL_isCup 106 = .ok (.bipush 6, 2) := by decide +kernel
theorem dL_isCup_108 : decode cL_isCup 108 = .ok (.iaload, 1) := by decide +kernel
theorem dL_isCup_109 : decode cL_isCup 109 = .ok (.if_icmp .ge 68, 3) := by decide +kernel
theorem dL_isCup_112 : decode cL_isCup 112 = .ok (.iload 5, 2) := by decide +kernel
theorem dL_isCup_114 : decode cL_isCup 114 = .ok (.ifCond .eq 63, 3) := by decide +kernel
theorem dL_isCup_117 : decode cL_isCup 117 = .ok (.iconst 0, 1) := by decide +kernel
theorem dL_isCup_118 : decode cL_isCup 118 = .ok (.istore 7, 2) := by decide +kernel
theorem dL_isCup_120 : decode cL_isCup 120 = .ok (.iconst 0, 1) := by decide +kernel
