theorem dL_isCup_121 : decode cL_isCup 121 = .ok (.istore 8, 2) := by decide +kernel
theorem dL_isCup_123 : decode cL_isCup 123 = .ok (.iload 8, 2) := by decide +kernel
theorem dL_isCup_125 : decode cL_isCup 125 = .ok (.aload_n 2, 1) := by decide +kernel
theorem dL_isCup_126 : decode cL_isCup 126 = .ok (.iconst 2, 1) := by decide +kernel
theorem dL_isCup_127 : decode cL_isCup 127 = .ok (.iaload, 1) := by decide +kernel
theorem dL_isCup_128 : decode cL_isCup 128 = .ok (.if_icmp .ge 24, 3) := by decide +kernel
theorem dL_isCup_131 : decode cL_isCup 131 = .ok (.iload 7, 2) := by decide +kernel
theorem dL_isCup_133 : decode cL_isCup 133 = .ok (.iconst 1, 1) := by decide +kernel
theorem dL_isCup_134 : decode cL_isCup 134 = .ok (.aload_n 0, 1) := by decide +kernel
theorem dL_isCup_135 : decode cL_isCup 135 = .ok (.iload 6, 2) := by decide +kernel
theorem dL_isCup_137 : decode cL_isCup 137 = .ok (.iload 8, 2) := by decide +kernel
theorem dL_isCup_139 : decode cL_isCup 139 = .ok (.invokevirtual 78, 3) := by decide +kernel
theorem dL_isCup_142 : decode cL_isCup 142 = .ok (.ishl, 1) := by decide +kernel
theorem dL_isCup_143 : decode cL_isCup 143 = .ok (.ior, 1) := by decide +kernel
theorem dL_isCup_144 : decode cL_isCup 144 = .ok (.istore 7, 2) := by decide +kernel
theorem dL_isCup_146 : decode cL_isCup 146 = .ok (.iinc 8 1, 3) := by decide +kernel
theorem dL_isCup_149 : decode cL_isCup 149 = .ok (.goto (-26), 3) := by decide +kernel
theorem dL_isCup_152 : decode cL_isCup 152 = .ok (.iload 7, 2) := by decide +kernel
theorem dL_isCup_154 : decode cL_isCup 154 = .ok (.iconst 1, 1) := by decide +kernel
theorem dL_isCup_155 : decode cL_isCup 155 = .ok (.aload_n 2, 1) := by decide +kernel
theorem dL_isCup_156 : decode cL_isCup 156 = .ok (.iconst 2, 1) := by decide +kernel
theorem dL_isCup_157 : decode cL_isCup 157 = .ok (.iaload, 1) := by decide +kernel
theorem dL_isCup_158 : decode cL_isCup 158 = .ok (.ishl, 1) := by decide +kernel
theorem dL_isCup_159 : decode cL_isCup 159 = .ok (.iconst 1, 1) := by decide +kernel
theorem dL_isCup_160 : decode cL_isCup 160 = .ok (.isub, 1) := by decide +kernel
theorem dL_isCup_161 : decode cL_isCup 161 = .ok (.if_icmp .ne 7, 3) := by decide +kernel
theorem dL_isCup_164 : decode cL_isCup 164 = .ok (.iconst 1, 1) := by decide +kernel
theorem dL_isCup_165 : decode cL_isCup 165 = .ok (.goto 4, 3) := by decide +kernel
theorem dL_isCup_168 : decode cL_isCup 168 = .ok (.iconst 0, 1) := by decide +kernel
theorem dL_isCup_169 : decode cL_isCup 169 = .ok (.istore 5, 2) := by decide +kernel
theorem dL_isCup_171 : decode cL_isCup 171 = .ok (.iinc 6 1, 3) := by decide +kernel
theorem dL_isCup_174 : decode cL_isCup 174 = .ok (.goto (-71), 3) := by decide +kernel
theorem dL_isCup_177 : decode cL_isCup 177 = .ok (.iconst 0, 1) := by decide +kernel
theorem dL_isCup_178 : decode cL_isCup 178 = .ok (.istore 6, 2) := by decide +kernel
theorem dL_isCup_180 : decode cL_isCup 180 = .ok (.iload 6, 2) := by decide +kernel
theorem dL_isCup_182 : decode cL_isCup 182 = .ok (.aload_n 2, 1) := by decide +kernel
theorem dL_isCup_183 : decode cL_isCup 183 = .ok (.iconst 2, 1) := by decide +kernel
theorem dL_isCup_184 : decode cL_isCup 184 = .ok (.iaload, 1) := by decide +kernel
theorem dL_isCup_185 : decode cL_isCup 185 = .ok (.if_icmp .ge 208, 3) := by decide +kernel
theorem dL_isCup_188 : decode cL_isCup 188 = .ok (.iload 5, 2) := by decide +kernel
theorem dL_isCup_190 : decode cL_isCup 190 = .ok (.ifCond .eq 203, 3) := by decide +kernel
theorem dL_isCup_193 : decode cL_isCup 193 = .ok (.iconst 0, 1) := by decide +kernel
theorem dL_isCup_194 : decode cL_isCup 194 = .ok (.istore 7, 2) := by decide +kernel
theorem dL_isCup_196 : decode cL_isCup 196 = .ok (.iconst 0, 1) := by decide +kernel
theorem dL_isCup_197 : decode cL_isCup 197 = .ok (.istore 8, 2) := by decide +kernel
theorem dL_isCup_199 : decode cL_isCup 199 = .ok (.iload 8, 2) := by decide +kernel
theorem dL_isCup_201 : decode cL_isCup 201 = .ok (.aload_n 2, 1) := by decide +kernel
theorem dL_isCup_202 : decode cL_isCup 202 = .ok (.bipush 6, 2) := by decide +kernel
theorem dL_isCup_204 : decode cL_isCup 204 = .ok (.iaload, 1) := by decide +kernel
theorem dL_isCup_205 : decode cL_isCup 205 = .ok (.if_icmp .ge 25, 3) := by decide +kernel
theorem dL_isCup_208 : decode cL_isCup 208 = .ok (.iload 7, 2) := by decide +kernel
theorem dL_isCup_210 : decode cL_isCup 210 = .ok (.aload_n 0, 1) := by decide +kernel
theorem dL_isCup_211 : decode cL_isCup 211 = .ok (.iload 8, 2) := by decide +kernel
theorem dL_isCup_213 : decode cL_isCup 213 = .ok (.iload 6, 2) := by decide +kernel
theorem dL_isCup_215 : decode cL_isCup 215 = .ok (.invokevirtual 78, 3) := by decide +kernel
theorem dL_isCup_218 : decode cL_isCup 218 = .ok (.invokestatic 117, 3) := by decide +kernel
theorem dL_isCup_221 : decode cL_isCup 221 = .ok (.iadd, 1) := by decide +kernel
theorem dL_isCup_222 : decode cL_isCup 222 = .ok (.istore 7, 2) := by decide +kernel
theorem dL_isCup_224 : decode cL_isCup 224 = .ok (.iinc 8 1, 3) := by decide +kernel
theorem dL_isCup_227 : decode cL_isCup 227 = .ok (.goto (-28), 3) := by decide +kernel
theorem dL_isCup_230 : decode cL_isCup 230 = .ok (.aload_n 0, 1) := by decide +kernel
theorem dL_isCup_231 : decode cL_isCup 231 = .ok (.iload 6, 2) := by decide +kernel
theorem dL_isCup_233 : decode cL_isCup 233 = .ok (.invokevirtual 87, 3) := by decide +kernel
theorem dL_isCup_236 : decode cL_isCup 236 = .ok (.istore 8, 2) := by decide +kernel
theorem dL_isCup_238 : decode cL_isCup 238 = .ok (.iload_n 3, 1) := by decide +kernel
theorem dL_isCup_239 : decode cL_isCup 239 = .ok (.iconst 1, 1) := by decide +kernel
theorem dL_isCup_240 : decode cL_isCup 240 = .ok (.iload 8, 2) := by decide +kernel
theorem dL_isCup_242 : decode cL_isCup 242 = .ok (.ishl, 1) := by decide +kernel
theorem dL_isCup_243 : decode cL_isCup 243 = .ok (.ior, 1) := by decide +kernel
theorem dL_isCup_244 : decode cL_isCup 244 = .ok (.istore_n 3, 1) := by decide +kernel
theorem dL_isCup_245 : decode cL_isCup 245 = .ok (.iload 4, 2) := by decide +kernel
theorem dL_isCup_247 : decode cL_isCup 247 = .ok (.aload_n 0, 1) := by decide +kernel
theorem dL_isCup_248 : decode cL_isCup 248 = .ok (.iload 6, 2) := by decide +kernel
theorem dL_isCup_250 : decode cL_isCup 250 = .ok (.invokevirtual 81, 3) := by decide +kernel
theorem dL_isCup_253 : decode cL_isCup 253 = .ok (.iadd, 1) := by decide +kernel
theorem dL_isCup_254 : decode cL_isCup 254 = .ok (.istore 4, 2) := by decide +kernel
theorem dL_isCup_256 : decode cL_isCup 256 = .ok (.aload_n 0, 1) := by decide +kernel
theorem dL_isCup_257 : decode cL_isCup 257 = .ok (.iload 6, 2) := by decide +kernel
theorem dL_isCup_259 : decode cL_isCup 259 = .ok (.invokevirtual 81, 3) := by decide +kernel
theorem dL_isCup_262 : decode cL_isCup 262 = .ok (.ifCond .lt 67, 3) := by decide +kernel
theorem dL_isCup_265 : decode cL_isCup 265 = .ok (.aload_n 0, 1) := by decide +kernel
theorem dL_isCup_266 : decode cL_isCup 266 = .ok (.iload 6, 2) := by decide +kernel
theorem dL_isCup_268 : decode cL_isCup 268 = .ok (.invokevirtual 81, 3) := by decide +kernel
theorem dL_isCup_271 : decode cL_isCup 271 = .ok (.iload 7, 2) := by decide +kernel
theorem dL_isCup_273 : decode cL_isCup 273 = .ok (.if_icmp .gt 56, 3) := by decide +kernel
theorem dL_isCup_276 : decode cL_isCup 276 = .ok (.aload_n 2, 1) := by decide +kernel
theorem dL_isCup_277 : decode cL_isCup 277 = .ok (.bipush 7, 2) := by decide +kernel
theorem dL_isCup_279 : decode cL_isCup 279 = .ok (.iaload, 1) := by decide +kernel
theorem dL_isCup_280 : decode cL_isCup 280 = .ok (.aload_n 2, 1) := by decide +kernel
theorem dL_isCup_281 : decode cL_isCup 281 = .ok (.bipush 6, 2) := by decide +kernel
theorem dL_isCup_283 : decode cL_isCup 283 = .ok (.iaload, 1) := by decide +kernel
theorem dL_isCup_284 : decode cL_isCup 284 = .ok (.if_icmp .lt 12, 3) := by decide +kernel
theorem dL_isCup_287 : decode cL_isCup 287 = .ok (.aload_n 0, 1) := by decide +kernel
theorem dL_isCup_288 : decode cL_isCup 288 = .ok (.iload 6, 2) := by decide +kernel
theorem dL_isCup_290 : decode cL_isCup 290 = .ok (.invokevirtual 81, 3) := by decide +kernel
theorem dL_isCup_293 : decode cL_isCup 293 = .ok (.ifCond .ne 36, 3) := by decide +kernel
theorem dL_isCup_296 : decode cL_isCup 296 = .ok (.iload 8, 2) := by decide +kernel
theorem dL_isCup_298 : decode cL_isCup 298 = .ok (.ifCond .lt 31, 3) := by decide +kernel
theorem dL_isCup_301 : decode cL_isCup 301 = .ok (.iload 8, 2) := by decide +kernel
theorem dL_isCup_303 : decode cL_isCup 303 = .ok (.aload_n 2, 1) := by decide +kernel
theorem dL_isCup_304 : decode cL_isCup 304 = .ok (.iconst 2, 1) := by decide +kernel
theorem dL_isCup_305 : decode cL_isCup 305 = .ok (.iaload, 1) := by decide +kernel
theorem dL_isCup_306 : decode cL_isCup 306 = .ok (.if_icmp .ge 23, 3) := by decide +kernel
theorem dL_isCup_309 : decode cL_isCup 309 = .ok (.aload_n 0, 1) := by decide +kernel
theorem dL_isCup_310 : decode cL_isCup 310 = .ok (.iconst 2, 1) := by decide +kernel
theorem dL_isCup_311 : decode cL_isCup 311 = .ok (.iload 8, 2) := by decide +kernel
theorem dL_isCup_313 : decode cL_isCup 313 = .ok (.imul, 1) := by decide +kernel
theorem dL_isCup_314 : decode cL_isCup 314 = .ok (.invokevirtual 90, 3) := by decide +kernel
theorem dL_isCup_317 : decode cL_isCup 317 = .ok (.bipush 48, 2) := by decide +kernel
theorem dL_isCup_319 : decode cL_isCup 319 = .ok (.iload 6, 2) := by decide +kernel
theorem dL_isCup_321 : decode cL_isCup 321 = .ok (.iadd, 1) := by decide +kernel
theorem dL_isCup_322 : decode cL_isCup 322 = .ok (.if_icmp .ne 7, 3) := by decide +kernel
theorem dL_isCup_325 : decode cL_isCup 325 = .ok (.iconst 1, 1) := by decide +kernel
theorem dL_isCup_326 : decode cL_isCup 326 = .ok (.goto 4, 3) := by decide +kernel
theorem dL_isCup_329 : decode cL_isCup 329 = .ok (.iconst 0, 1) := by decide +kernel
theorem dL_isCup_330 : decode cL_isCup 330 = .ok (.istore 5, 2) := by decide +kernel
theorem dL_isCup_332 : decode cL_isCup 332 = .ok (.iconst 0, 1) := by decide +kernel
theorem dL_isCup_333 : decode cL_isCup 333 = .ok (.istore 9, 2) := by decide +kernel
theorem dL_isCup_335 : decode cL_isCup 335 = .ok (.iload 9, 2) := by decide +kernel
theorem dL_isCup_337 : decode cL_isCup 337 = .ok (.aload_n 2, 1) := by decide +kernel
theorem dL_isCup_338 : decode cL_isCup 338 = .ok (.iconst 2, 1) := by decide +kernel
theorem dL_isCup_339 : decode cL_isCup 339 = .ok (.iaload, 1) := by decide +kernel
theorem dL_isCup_340 : decode cL_isCup 340 = .ok (.if_icmp .ge 47, 3) := by decide +kernel
theorem dL_isCup_343 : decode cL_isCup 343 = .ok (.iload 5, 2) := by decide +kernel
theorem dL_isCup_345 : decode cL_isCup 345 = .ok (.ifCond .eq 42, 3) := by decide +kernel
theorem dL_isCup_348 : decode cL_isCup 348 = .ok (.aload_n 0, 1) := by decide +kernel
theorem dL_isCup_349 : decode cL_isCup 349 = .ok (.iload 9, 2) := by decide +kernel
theorem dL_isCup_351 : decode cL_isCup 351 = .ok (.invokevirtual 81, 3) := by decide +kernel
theorem dL_isCup_354 : decode cL_isCup 354 = .ok (.aload_n 0, 1) := by decide +kernel
theorem dL_isCup_355 : decode cL_isCup 355 = .ok (.iload 6, 2) := by decide +kernel
theorem dL_isCup_357 : decode cL_isCup 357 = .ok (.invokevirtual 81, 3) := by decide +kernel
theorem dL_isCup_360 : decode cL_isCup 360 = .ok (.if_icmp .le 14, 3) := by decide +kernel
theorem dL_isCup_363 : decode cL_isCup 363 = .ok (.aload_n 0, 1) := by decide +kernel
theorem dL_isCup_364 : decode cL_isCup 364 = .ok (.iload 9, 2) := by decide +kernel
theorem dL_isCup_366 : decode cL_isCup 366 = .ok (.invokevirtual 87, 3) := by decide +kernel
theorem dL_isCup_369 : decode cL_isCup 369 = .ok (.iload 8, 2) := by decide +kernel
theorem dL_isCup_371 : decode cL_isCup 371 = .ok (.if_icmp .ge 7, 3) := by decide +kernel
theorem dL_isCup_374 : decode cL_isCup 374 = .ok (.iconst 1, 1) := by decide +kernel
theorem dL_isCup_375 : decode cL_isCup 375 = .ok (.goto 4, 3) := by decide +kernel
theorem dL_isCup_378 : decode cL_isCup 378 = .ok (.iconst 0, 1) := by decide +kernel
theorem dL_isCup_379 : decode cL_isCup 379 = .ok (.istore 5, 2) := by decide +kernel
theorem dL_isCup_381 : decode cL_isCup 381 = .ok (.iinc 9 1, 3) := by decide +kernel
theorem dL_isCup_384 : decode cL_isCup 384 = .ok (.goto (-49), 3) := by decide +kernel
theorem dL_isCup_387 : decode cL_isCup 387 = .ok (.iinc 6 1, 3) := by decide +kernel
theorem dL_isCup_390 : decode cL_isCup 390 = .ok (.goto (-210), 3) := by decide +kernel
theorem dL_isCup_393 : decode cL_isCup 393 = .ok (.iconst 1, 1) := by decide +kernel
theorem dL_isCup_394 : decode cL_isCup 394 = .ok (.istore 6, 2) := by decide +kernel
theorem dL_isCup_396 : decode cL_isCup 396 = .ok (.iload 6, 2) := by decide +kernel
theorem dL_isCup_398 : decode cL_isCup 398 = .ok (.iconst 2, 1) := by decide +kernel
theorem dL_isCup_399 : decode cL_isCup 399 = .ok (.aload_n 2, 1) := by decide +kernel
theorem dL_isCup_400 : decode cL_isCup 400 = .ok (.iconst 2, 1) := by decide +kernel
theorem dL_isCup_401 : decode cL_isCup 401 = .ok (.iaload, 1) := by decide +kernel
theorem dL_isCup_402 : decode cL_isCup 402 = .ok (.imul, 1) := by decide +kernel
theorem dL_isCup_403 : decode cL_isCup 403 = .ok (.iconst 1, 1) := by decide +kernel
theorem dL_isCup_404 : decode cL_isCup 404 = .ok (.isub, 1) := by decide +kernel
theorem dL_isCup_405 : decode cL_isCup 405 = .ok (.if_icmp .ge 32, 3) := by decide +kernel
theorem dL_isCup_408 : decode cL_isCup 408 = .ok (.iload 5, 2) := by decide +kernel
theorem dL_isCup_410 : decode cL_isCup 410 = .ok (.ifCond .eq 27, 3) := by decide +kernel
theorem dL_isCup_413 : decode cL_isCup 413 = .ok (.aload_n 0, 1) := by decide +kernel
theorem dL_isCup_414 : decode cL_isCup 414 = .ok (.iload 6, 2) := by decide +kernel
theorem dL_isCup_416 : decode cL_isCup 416 = .ok (.invokevirtual 90, 3) := by decide +kernel
theorem dL_isCup_419 : decode cL_isCup 419 = .ok (.bipush 62, 2) := by decide +kernel
theorem dL_isCup_421 : decode cL_isCup 421 = .ok (.if_icmp .ne 7, 3) := by decide +kernel
theorem dL_isCup_424 : decode cL_isCup 424 = .ok (.iconst 1, 1) := by decide +kernel
theorem dL_isCup_425 : decode cL_isCup 425 = .ok (.goto 4, 3) := by decide +kernel
theorem dL_isCup_428 : decode cL_isCup 428 = .ok (.iconst 0, 1) := by decide +kernel
theorem dL_isCup_429 : decode cL_isCup 429 = .ok (.istore 5, 2) := by decide +kernel
theorem dL_isCup_431 : decode cL_isCup 431 = .ok (.iinc 6 2, 3) := by decide +kernel
theorem dL_isCup_434 : decode cL_isCup 434 = .ok (.goto (-38), 3) := by decide +kernel
theorem dL_isCup_437 : decode cL_isCup 437 = .ok (.iload 5, 2) := by decide +kernel
theorem dL_isCup_439 : decode cL_isCup 439 = .ok (.ifCond .eq 101, 3) := by decide +kernel
theorem dL_isCup_442 : decode cL_isCup 442 = .ok (.iload_n 3, 1) := by decide +kernel
theorem dL_isCup_443 : decode cL_isCup 443 = .ok (.iconst 1, 1) := by decide +kernel
theorem dL_isCup_444 : decode cL_isCup 444 = .ok (.aload_n 2, 1) := by decide +kernel
theorem dL_isCup_445 : decode cL_isCup 445 = .ok (.iconst 2, 1) := by decide +kernel
theorem dL_isCup_446 : decode cL_isCup 446 = .ok (.iaload, 1) := by decide +kernel
theorem dL_isCup_447 : decode cL_isCup 447 = .ok (.ishl, 1) := by decide +kernel
theorem dL_isCup_448 : decode cL_isCup 448 = .ok (.iconst 1, 1) := by decide +kernel
theorem dL_isCup_449 : decode cL_isCup 449 = .ok (.isub, 1) := by decide +kernel
theorem dL_isCup_450 : decode cL_isCup 450 = .ok (.if_icmp .ne 90, 3) := by decide +kernel
theorem dL_isCup_453 : decode cL_isCup 453 = .ok (.aload_n 0, 1) := by decide +kernel
theorem dL_isCup_454 : decode cL_isCup 454 = .ok (.iconst 0, 1) := by decide +kernel
theorem dL_isCup_455 : decode cL_isCup 455 = .ok (.invokevirtual 84, 3) := by decide +kernel
theorem dL_isCup_458 : decode cL_isCup 458 = .ok (.aload_n 0, 1) := by decide +kernel
theorem dL_isCup_459 : decode cL_isCup 459 = .ok (.iconst 1, 1) := by decide +kernel
theorem dL_isCup_460 : decode cL_isCup 460 = .ok (.invokevirtual 84, 3) := by decide +kernel
theorem dL_isCup_463 : decode cL_isCup 463 = .ok (.iadd, 1) := by decide +kernel
theorem dL_isCup_464 : decode cL_isCup 464 = .ok (.aload_n 0, 1) := by decide +kernel
theorem dL_isCup_465 : decode cL_isCup 465 = .ok (.iconst 2, 1) := by decide +kernel
theorem dL_isCup_466 : decode cL_isCup 466 = .ok (.invokevirtual 84, 3) := by decide +kernel
theorem dL_isCup_469 : decode cL_isCup 469 = .ok (.iadd, 1) := by decide +kernel
theorem dL_isCup_470 : decode cL_isCup 470 = .ok (.aload_n 0, 1) := by decide +kernel
theorem dL_isCup_471 : decode cL_isCup 471 = .ok (.iconst 3, 1) := by decide +kernel
theorem dL_isCup_472 : decode cL_isCup 472 = .ok (.invokevirtual 84, 3) := by decide +kernel
theorem dL_isCup_475 : decode cL_isCup 475 = .ok (.iadd, 1) := by decide +kernel
theorem dL_isCup_476 : decode cL_isCup 476 = .ok (.iload 4, 2) := by decide +kernel
theorem dL_isCup_478 : decode cL_isCup 478 = .ok (.if_icmp .ne 62, 3) := by decide +kernel
theorem dL_isCup_481 : decode cL_isCup 481 = .ok (.aload_n 0, 1) := by decide +kernel
theorem dL_isCup_482 : decode cL_isCup 482 = .ok (.invokevirtual 120, 3) := by decide +kernel
theorem dL_isCup_485 : decode cL_isCup 485 = .ok (.aload_n 2, 1) := by decide +kernel
theorem dL_isCup_486 : decode cL_isCup 486 = .ok (.iconst 2, 1) := by decide +kernel
theorem dL_isCup_487 : decode cL_isCup 487 = .ok (.iaload, 1) := by decide +kernel
theorem dL_isCup_488 : decode cL_isCup 488 = .ok (.ifCond .ne 7, 3) := by decide +kernel
theorem dL_isCup_491 : decode cL_isCup 491 = .ok (.iconst 0, 1) := by decide +kernel
theorem dL_isCup_492 : decode cL_isCup 492 = .ok (.goto 10, 3) := by decide +kernel
theorem dL_isCup_495 : decode cL_isCup 495 = .ok (.iconst 2, 1) := by decide +kernel
