theorem dL_paints_184 : decode cL_paints 184 = .ok (.iconst 0, 1) := by decide +kernel
theorem dL_paints_185 : decode cL_paints 185 = .ok (.istore 6, 2) := by decide +kernel
theorem dL_paints_187 : decode cL_paints 187 = .ok (.iload_n 3, 1) := by decide +kernel
theorem dL_paints_188 : decode cL_paints 188 = .ok (.iconst 1, 1) := by decide +kernel
theorem dL_paints_189 : decode cL_paints 189 = .ok (.ishr, 1) := by decide +kernel
theorem dL_paints_190 : decode cL_paints 190 = .ok (.bipush 8, 2) := by decide +kernel
theorem dL_paints_192 : decode cL_paints 192 = .ok (.invokestatic 125, 3) := by decide +kernel
theorem dL_paints_195 : decode cL_paints 195 = .ok (.istore 7, 2) := by decide +kernel
theorem dL_paints_197 : decode cL_paints 197 = .ok (.iload_n 3, 1) := by decide +kernel
theorem dL_paints_198 : decode cL_paints 198 = .ok (.iconst 4, 1) := by decide +kernel
theorem dL_paints_199 : decode cL_paints 199 = .ok (.ishr, 1) := by decide +kernel
theorem dL_paints_200 : decode cL_paints 200 = .ok (.bipush 15, 2) := by decide +kernel
theorem dL_paints_202 : decode cL_paints 202 = .ok (.invokestatic 125, 3) := by decide +kernel
theorem dL_paints_205 : decode cL_paints 205 = .ok (.bipush 7, 2) := by decide +kernel
theorem dL_paints_207 : decode cL_paints 207 = .ok (.isub, 1) := by decide +kernel
theorem dL_paints_208 : decode cL_paints 208 = .ok (.istore 8, 2) := by decide +kernel
theorem dL_paints_210 : decode cL_paints 210 = .ok (.aload_n 0, 1) := by decide +kernel
theorem dL_paints_211 : decode cL_paints 211 = .ok (.iload 6, 2) := by decide +kernel
theorem dL_paints_213 : decode cL_paints 213 = .ok (.iload 7, 2) := by decide +kernel
theorem dL_paints_215 : decode cL_paints 215 = .ok (.iload 8, 2) := by decide +kernel
theorem dL_paints_217 : decode cL_paints 217 = .ok (.invokestatic 131, 3) := by decide +kernel
theorem dL_paints_220 : decode cL_paints 220 = .ok (.istore 9, 2) := by decide +kernel
theorem dL_paints_222 : decode cL_paints 222 = .ok (.iload 9, 2) := by decide +kernel
theorem dL_paints_224 : decode cL_paints 224 = .ok (.ifCond .lt 54, 3) := by decide +kernel
theorem dL_paints_227 : decode cL_paints 227 = .ok (.iload 9, 2) := by decide +kernel
theorem dL_paints_229 : decode cL_paints 229 = .ok (.bipush 9, 2) := by decide +kernel
theorem dL_paints_231 : decode cL_paints 231 = .ok (.if_icmp .ge 47, 3) := by decide +kernel
theorem dL_paints_234 : decode cL_paints 234 = .ok (.aload_n 0, 1) := by decide +kernel
theorem dL_paints_235 : decode cL_paints 235 = .ok (.invokestatic 121, 3) := by decide +kernel
theorem dL_paints_238 : decode cL_paints 238 = .ok (.iload 4, 2) := by decide +kernel
theorem dL_paints_240 : decode cL_paints 240 = .ok (.if_icmp .ne 38, 3) := by decide +kernel
theorem dL_paints_243 : decode cL_paints 243 = .ok (.aload_n 0, 1) := by decide +kernel
theorem dL_paints_244 : decode cL_paints 244 = .ok (.iload 6, 2) := by decide +kernel
theorem dL_paints_246 : decode cL_paints 246 = .ok (.iload 7, 2) := by decide +kernel
theorem dL_paints_248 : decode cL_paints 248 = .ok (.iload 8, 2) := by decide +kernel
theorem dL_paints_250 : decode cL_paints 250 = .ok (.ineg, 1) := by decide +kernel
theorem dL_paints_251 : decode cL_paints 251 = .ok (.invokestatic 131, 3) := by decide +kernel
theorem dL_paints_254 : decode cL_paints 254 = .ok (.iload 9, 2) := by decide +kernel
theorem dL_paints_256 : decode cL_paints 256 = .ok (.if_icmp .ne 22, 3) := by decide +kernel
theorem dL_paints_259 : decode cL_paints 259 = .ok (.aload_n 0, 1) := by decide +kernel
theorem dL_paints_260 : decode cL_paints 260 = .ok (.iload 6, 2) := by decide +kernel
theorem dL_paints_262 : decode cL_paints 262 = .ok (.iload 7, 2) := by decide +kernel
theorem dL_paints_264 : decode cL_paints 264 = .ok (.iload 8, 2) := by decide +kernel
theorem dL_paints_266 : decode cL_paints 266 = .ok (.invokestatic 131, 3) := by decide +kernel
theorem dL_paints_269 : decode cL_paints 269 = .ok (.iload 9, 2) := by decide +kernel
theorem dL_paints_271 : decode cL_paints 271 = .ok (.if_icmp .ne 7, 3) := by decide +kernel
theorem dL_paints_274 : decode cL_paints 274 = .ok (.iconst 1, 1) := by decide +kernel
theorem dL_paints_275 : decode cL_paints 275 = .ok (.goto 4, 3) := by decide +kernel
theorem dL_paints_278 : decode cL_paints 278 = .ok (.iconst 0, 1) := by decide +kernel
theorem dL_paints_279 : decode cL_paints 279 = .ok (.ireturn, 1) := by decide +kernel
theorem dL_paints_280 : decode cL_paints 280 = .ok (.aload_n 0, 1) := by decide +kernel
theorem dL_paints_281 : decode cL_paints 281 = .ok (.invokestatic 134, 3) := by decide +kernel
theorem dL_paints_284 : decode cL_paints 284 = .ok (.istore 6, 2) := by decide +kernel
theorem dL_paints_286 : decode cL_paints 286 = .ok (.aload_n 1, 1) := by decide +kernel
theorem dL_paints_287 : decode cL_paints 287 = .ok (.iconst 0, 1) := by decide +kernel
theorem dL_paints_288 : decode cL_paints 288 = .ok (.iaload, 1) := by decide +kernel
theorem dL_paints_289 : decode cL_paints 289 = .ok (.bipush 10, 2) := by decide +kernel
theorem dL_paints_291 : decode cL_paints 291 = .ok (.if_icmp .ne 49, 3) := by decide +kernel
theorem dL_paints_294 : decode cL_paints 294 = .ok (.iload 6, 2) := by decide +kernel
theorem dL_paints_296 : decode cL_paints 296 = .ok (.ldc 32, 2) := by decide +kernel
theorem dL_paints_298 : decode cL_paints 298 = .ok (.if_icmp .ne 40, 3) := by decide +kernel
theorem dL_paints_301 : decode cL_paints 301 = .ok (.aload_n 0, 1) := by decide +kernel
theorem dL_paints_302 : decode cL_paints 302 = .ok (.invokestatic 121, 3) := by decide +kernel
theorem dL_paints_305 : decode cL_paints 305 = .ok (.iload 4, 2) := by decide +kernel
theorem dL_paints_307 : decode cL_paints 307 = .ok (.if_icmp .ne 31, 3) := by decide +kernel
theorem dL_paints_310 : decode cL_paints 310 = .ok (.iload_n 3, 1) := by decide +kernel
theorem dL_paints_311 : decode cL_paints 311 = .ok (.iconst 3, 1) := by decide +kernel
theorem dL_paints_312 : decode cL_paints 312 = .ok (.invokestatic 125, 3) := by decide +kernel
theorem dL_paints_315 : decode cL_paints 315 = .ok (.ifCond .gt 19, 3) := by decide +kernel
theorem dL_paints_318 : decode cL_paints 318 = .ok (.aload_n 0, 1) := by decide +kernel
theorem dL_paints_319 : decode cL_paints 319 = .ok (.invokevirtual 136, 3) := by decide +kernel
theorem dL_paints_322 : decode cL_paints 322 = .ok (.iload 4, 2) := by decide +kernel
theorem dL_paints_324 : decode cL_paints 324 = .ok (.if_icmp .ne 14, 3) := by decide +kernel
theorem dL_paints_327 : decode cL_paints 327 = .ok (.aload_n 0, 1) := by decide +kernel
theorem dL_paints_328 : decode cL_paints 328 = .ok (.invokestatic 121, 3) := by decide +kernel
theorem dL_paints_331 : decode cL_paints 331 = .ok (.ifCond .ne 7, 3) := by decide +kernel
theorem dL_paints_334 : decode cL_paints 334 = .ok (.iconst 1, 1) := by decide +kernel
theorem dL_paints_335 : decode cL_paints 335 = .ok (.goto 4, 3) := by decide +kernel
theorem dL_paints_338 : decode cL_paints 338 = .ok (.iconst 0, 1) := by decide +kernel
theorem dL_paints_339 : decode cL_paints 339 = .ok (.ireturn, 1) := by decide +kernel
theorem dL_paints_340 : decode cL_paints 340 = .ok (.aload_n 1, 1) := by decide +kernel
theorem dL_paints_341 : decode cL_paints 341 = .ok (.iconst 0, 1) := by decide +kernel
theorem dL_paints_342 : decode cL_paints 342 = .ok (.dup2, 1) := by decide +kernel
theorem dL_paints_343 : decode cL_paints 343 = .ok (.iaload, 1) := by decide +kernel
theorem dL_paints_344 : decode cL_paints 344 = .ok (.iconst 1, 1) := by decide +kernel
theorem dL_paints_345 : decode cL_paints 345 = .ok (.iadd, 1) := by decide +kernel
theorem dL_paints_346 : decode cL_paints 346 = .ok (.iastore, 1) := by decide +kernel
theorem dL_paints_347 : decode cL_paints 347 = .ok (.iconst 0, 1) := by decide +kernel
theorem dL_paints_348 : decode cL_paints 348 = .ok (.istore 7, 2) := by decide +kernel
theorem dL_paints_350 : decode cL_paints 350 = .ok (.iload 6, 2) := by decide +kernel
theorem dL_paints_352 : decode cL_paints 352 = .ok (.aload_n 1, 1) := by decide +kernel
theorem dL_paints_353 : decode cL_paints 353 = .ok (.iconst 0, 1) := by decide +kernel
theorem dL_paints_354 : decode cL_paints 354 = .ok (.iaload, 1) := by decide +kernel
theorem dL_paints_355 : decode cL_paints 355 = .ok (.iconst 1, 1) := by decide +kernel
theorem dL_paints_356 : decode cL_paints 356 = .ok (.isub, 1) := by decide +kernel
theorem dL_paints_357 : decode cL_paints 357 = .ok (.if_icmp .ne 22, 3) := by decide +kernel
theorem dL_paints_360 : decode cL_paints 360 = .ok (.aload_n 0, 1) := by decide +kernel
theorem dL_paints_361 : decode cL_paints 361 = .ok (.iload 6, 2) := by decide +kernel
theorem dL_paints_363 : decode cL_paints 363 = .ok (.iconst (-1), 1) := by decide +kernel
theorem dL_paints_364 : decode cL_paints 364 = .ok (.invokestatic 139, 3) := by decide +kernel
theorem dL_paints_367 : decode cL_paints 367 = .ok (.bipush 64, 2) := by decide +kernel
theorem dL_paints_369 : decode cL_paints 369 = .ok (.iload 4, 2) := by decide +kernel
theorem dL_paints_371 : decode cL_paints 371 = .ok (.isub, 1) := by decide +kernel
theorem dL_paints_372 : decode cL_paints 372 = .ok (.if_icmp .ne 7, 3) := by decide +kernel
theorem dL_paints_375 : decode cL_paints 375 = .ok (.iconst 1, 1) := by decide +kernel
theorem dL_paints_376 : decode cL_paints 376 = .ok (.goto 4, 3) := by decide +kernel
theorem dL_paints_379 : decode cL_paints 379 = .ok (.iconst 0, 1) := by decide +kernel
theorem dL_paints_380 : decode cL_paints 380 = .ok (.istore 8, 2) := by decide +kernel
theorem dL_paints_382 : decode cL_paints 382 = .ok (.iconst 0, 1) := by decide +kernel
theorem dL_paints_383 : decode cL_paints 383 = .ok (.istore 9, 2) := by decide +kernel
theorem dL_paints_385 : decode cL_paints 385 = .ok (.iload 9, 2) := by decide +kernel
theorem dL_paints_387 : decode cL_paints 387 = .ok (.bipush 6, 2) := by decide +kernel
theorem dL_paints_389 : decode cL_paints 389 = .ok (.if_icmp .ge 22, 3) := by decide +kernel
theorem dL_paints_392 : decode cL_paints 392 = .ok (.iload 7, 2) := by decide +kernel
theorem dL_paints_394 : decode cL_paints 394 = .ok (.aload_n 0, 1) := by decide +kernel
theorem dL_paints_395 : decode cL_paints 395 = .ok (.iload 6, 2) := by decide +kernel
theorem dL_paints_397 : decode cL_paints 397 = .ok (.iload 9, 2) := by decide +kernel
theorem dL_paints_399 : decode cL_paints 399 = .ok (.invokestatic 139, 3) := by decide +kernel
theorem dL_paints_402 : decode cL_paints 402 = .ok (.iadd, 1) := by decide +kernel
theorem dL_paints_403 : decode cL_paints 403 = .ok (.istore 7, 2) := by decide +kernel
theorem dL_paints_405 : decode cL_paints 405 = .ok (.iinc 9 1, 3) := by decide +kernel
theorem dL_paints_408 : decode cL_paints 408 = .ok (.goto (-23), 3) := by decide +kernel
theorem dL_paints_411 : decode cL_paints 411 = .ok (.iconst 0, 1) := by decide +kernel
theorem dL_paints_412 : decode cL_paints 412 = .ok (.istore 9, 2) := by decide +kernel
theorem dL_paints_414 : decode cL_paints 414 = .ok (.iload 9, 2) := by decide +kernel
theorem dL_paints_416 : decode cL_paints 416 = .ok (.bipush 64, 2) := by decide +kernel
theorem dL_paints_418 : decode cL_paints 418 = .ok (.if_icmp .ge 83, 3) := by decide +kernel
theorem dL_paints_421 : decode cL_paints 421 = .ok (.iload 8, 2) := by decide +kernel
theorem dL_paints_423 : decode cL_paints 423 = .ok (.ifCond .eq 78, 3) := by decide +kernel
theorem dL_paints_426 : decode cL_paints 426 = .ok (.aload_n 0, 1) := by decide +kernel
theorem dL_paints_427 : decode cL_paints 427 = .ok (.iload 9, 2) := by decide +kernel
theorem dL_paints_429 : decode cL_paints 429 = .ok (.bipush 8, 2) := by decide +kernel
theorem dL_paints_431 : decode cL_paints 431 = .ok (.irem, 1) := by decide +kernel
theorem dL_paints_432 : decode cL_paints 432 = .ok (.iload 9, 2) := by decide +kernel
theorem dL_paints_434 : decode cL_paints 434 = .ok (.bipush 8, 2) := by decide +kernel
theorem dL_paints_436 : decode cL_paints 436 = .ok (.idiv, 1) := by decide +kernel
theorem dL_paints_437 : decode cL_paints 437 = .ok (.iconst 0, 1) := by decide +kernel
theorem dL_paints_438 : decode cL_paints 438 = .ok (.invokestatic 116, 3) := by decide +kernel
theorem dL_paints_441 : decode cL_paints 441 = .ok (.istore 10, 2) := by decide +kernel
theorem dL_paints_443 : decode cL_paints 443 = .ok (.iload 10, 2) := by decide +kernel
theorem dL_paints_445 : decode cL_paints 445 = .ok (.ifCond .lt 43, 3) := by decide +kernel
theorem dL_paints_448 : decode cL_paints 448 = .ok (.iload 10, 2) := by decide +kernel
theorem dL_paints_450 : decode cL_paints 450 = .ok (.aload_n 0, 1) := by decide +kernel
theorem dL_paints_451 : decode cL_paints 451 = .ok (.iload 6, 2) := by decide +kernel
theorem dL_paints_453 : decode cL_paints 453 = .ok (.iload 9, 2) := by decide +kernel
theorem dL_paints_455 : decode cL_paints 455 = .ok (.bipush 8, 2) := by decide +kernel
theorem dL_paints_457 : decode cL_paints 457 = .ok (.irem, 1) := by decide +kernel
theorem dL_paints_458 : decode cL_paints 458 = .ok (.iload 9, 2) := by decide +kernel
theorem dL_paints_460 : decode cL_paints 460 = .ok (.bipush 8, 2) := by decide +kernel
theorem dL_paints_462 : decode cL_paints 462 = .ok (.idiv, 1) := by decide +kernel
theorem dL_paints_463 : decode cL_paints 463 = .ok (.invokestatic 142, 3) := by decide +kernel
theorem dL_paints_466 : decode cL_paints 466 = .ok (.if_icmp .ne 26, 3) := by decide +kernel
theorem dL_paints_469 : decode cL_paints 469 = .ok (.aload_n 0, 1) := by decide +kernel
theorem dL_paints_470 : decode cL_paints 470 = .ok (.iload 9, 2) := by decide +kernel
theorem dL_paints_472 : decode cL_paints 472 = .ok (.bipush 8, 2) := by decide +kernel
theorem dL_paints_474 : decode cL_paints 474 = .ok (.irem, 1) := by decide +kernel
theorem dL_paints_475 : decode cL_paints 475 = .ok (.iload 9, 2) := by decide +kernel
theorem dL_paints_477 : decode cL_paints 477 = .ok (.bipush 8, 2) := by decide +kernel
theorem dL_paints_479 : decode cL_paints 479 = .ok (.idiv, 1) := by decide +kernel
theorem dL_paints_480 : decode cL_paints 480 = .ok (.iconst 1, 1) := by decide +kernel
theorem dL_paints_481 : decode cL_paints 481 = .ok (.invokestatic 116, 3) := by decide +kernel
theorem dL_paints_484 : decode cL_paints 484 = .ok (.iconst 1, 1) := by decide +kernel
theorem dL_paints_485 : decode cL_paints 485 = .ok (.if_icmp .ne 7, 3) := by decide +kernel
theorem dL_paints_488 : decode cL_paints 488 = .ok (.iconst 1, 1) := by decide +kernel
theorem dL_paints_489 : decode cL_paints 489 = .ok (.goto 4, 3) := by decide +kernel
theorem dL_paints_492 : decode cL_paints 492 = .ok (.iconst 0, 1) := by decide +kernel
theorem dL_paints_493 : decode cL_paints 493 = .ok (.istore 8, 2) := by decide +kernel
theorem dL_paints_495 : decode cL_paints 495 = .ok (.iinc 9 1, 3) := by decide +kernel
theorem dL_paints_498 : decode cL_paints 498 = .ok (.goto (-84), 3) := by decide +kernel
theorem dL_paints_501 : decode cL_paints 501 = .ok (.iload 8, 2) := by decide +kernel
theorem dL_paints_503 : decode cL_paints 503 = .ok (.ifCond .eq 14, 3) := by decide +kernel
theorem dL_paints_506 : decode cL_paints 506 = .ok (.iload 7, 2) := by decide +kernel
theorem dL_paints_508 : decode cL_paints 508 = .ok (.iload 4, 2) := by decide +kernel
theorem dL_paints_510 : decode cL_paints 510 = .ok (.if_icmp .ne 7, 3) := by decide +kernel
theorem dL_paints_513 : decode cL_paints 513 = .ok (.iconst 1, 1) := by decide +kernel
theorem dL_paints_514 : decode cL_paints 514 = .ok (.goto 4, 3) := by decide +kernel
theorem dL_paints_517 : decode cL_paints 517 = .ok (.iconst 0, 1) := by decide +kernel
theorem dL_paints_518 : decode cL_paints 518 = .ok (.ireturn, 1) := by decide +kernel
set_option maxRecDepth 20000 in
theorem ggL_arePages_L_low : GoodIn wsL_arePages wsL_low := goodIn_r _ [5, 6] (by decide +kernel) (by decide +kernel)
set_option maxRecDepth 20000 in
theorem gL_arePages_L_low : GoodIn wsL_arePages (va_wsS RL 125 yL_low wsL_low) := goodIn_app (goodIn_of _ (by decide +kernel)) ggL_arePages_L_low
set_option maxRecDepth 20000 in
theorem ggL_arePages_L_placeOf : GoodIn wsL_arePages wsL_placeOf := goodIn_ca (goodIn_r _ [9, 10, 1, 11, 12, 13, 14, 15, 16, 17, 18, 19, 20, 21, 22, 23, 24, 25, 26, 27, 28, 29, 30, 31, 32, 33, 34, 35] (by decide +kernel) (by decide +kernel)) (goodIn_sub (fun _ h => List.mem_cons_of_mem _ (List.mem_append_right _ h)) (by decide +kernel))
set_option maxRecDepth 20000 in
theorem gL_arePages_L_placeOf : GoodIn wsL_arePages (va_wsS RL 144 yL_placeOf wsL_placeOf) := goodIn_app (goodIn_of _ (by decide +kernel)) ggL_arePages_L_placeOf
set_option maxRecDepth 20000 in
theorem ggL_arePages_L_pageAt : GoodIn wsL_arePages wsL_pageAt := goodIn_ca (goodIn_r _ [38, 10, 1, 39, 40, 41, 14, 42, 16, 17, 18, 19, 20, 21, 22, 23, 24, 25, 26, 27, 28, 29, 33, 34, 35] (by decide +kernel) (by decide +kernel)) (goodIn_sub (fun _ h => List.mem_cons_of_mem _ (List.mem_append_right _ h)) (by decide +kernel))
set_option maxRecDepth 20000 in
theorem gL_arePages_L_pageAt : GoodIn wsL_arePages (va_wsS RL 146 yL_pageAt wsL_pageAt) := goodIn_app (goodIn_of _ (by decide +kernel)) ggL_arePages_L_pageAt
theorem dL_arePages_0 : decode cL_arePages 0 = .ok (.iconst 1, 1) := by decide +kernel
theorem dL_arePages_1 : decode cL_arePages 1 = .ok (.iload_n 1, 1) := by decide +kernel
theorem dL_arePages_2 : decode cL_arePages 2 = .ok (.iconst 4, 1) := by decide +kernel
theorem dL_arePages_3 : decode cL_arePages 3 = .ok (.invokestatic 125, 3) := by decide +kernel
theorem dL_arePages_6 : decode cL_arePages 6 = .ok (.iadd, 1) := by decide +kernel
theorem dL_arePages_7 : decode cL_arePages 7 = .ok (.istore_n 2, 1) := by decide +kernel
theorem dL_arePages_8 : decode cL_arePages 8 = .ok (.iconst 1, 1) := by decide +kernel
theorem dL_arePages_9 : decode cL_arePages 9 = .ok (.iload_n 1, 1) := by decide +kernel
theorem dL_arePages_10 : decode cL_arePages 10 = .ok (.iconst 2, 1) := by decide +kernel
theorem dL_arePages_11 : decode cL_arePages 11 = .ok (.ishr, 1) := by decide +kernel
theorem dL_arePages_12 : decode cL_arePages 12 = .ok (.iconst 2, 1) := by decide +kernel
theorem dL_arePages_13 : decode cL_arePages 13 = .ok (.iload_n 2, 1) := by decide +kernel
theorem dL_arePages_14 : decode cL_arePages 14 = .ok (.ishl, 1) := by decide +kernel
theorem dL_arePages_15 : decode cL_arePages 15 = .ok (.invokestatic 125, 3) := by decide +kernel
theorem dL_arePages_18 : decode cL_arePages 18 = .ok (.iadd, 1) := by decide +kernel
theorem dL_arePages_19 : decode cL_arePages 19 = .ok (.istore_n 3, 1) := by decide +kernel
theorem dL_arePages_20 : decode cL_arePages 20 = .ok (.aload_n 0, 1) := by decide +kernel
theorem dL_arePages_21 : decode cL_arePages 21 = .ok (.iload_n 2, 1) := by decide +kernel
theorem dL_arePages_22 : decode cL_arePages 22 = .ok (.iload_n 3, 1) := by decide +kernel
theorem dL_arePages_23 : decode cL_arePages 23 = .ok (.invokestatic 144, 3) := by decide +kernel
theorem dL_arePages_26 : decode cL_arePages 26 = .ok (.istore 4, 2) := by decide +kernel
theorem dL_arePages_28 : decode cL_arePages 28 = .ok (.aload_n 0, 1) := by decide +kernel
theorem dL_arePages_29 : decode cL_arePages 29 = .ok (.iload_n 2, 1) := by decide +kernel
theorem dL_arePages_30 : decode cL_arePages 30 = .ok (.iload_n 3, 1) := by decide +kernel
theorem dL_arePages_31 : decode cL_arePages 31 = .ok (.iconst 2, 1) := by decide +kernel
theorem dL_arePages_32 : decode cL_arePages 32 = .ok (.irem, 1) := by decide +kernel
theorem dL_arePages_33 : decode cL_arePages 33 = .ok (.iconst 1, 1) := by decide +kernel
theorem dL_arePages_34 : decode cL_arePages 34 = .ok (.if_icmp .ne 9, 3) := by decide +kernel
theorem dL_arePages_37 : decode cL_arePages 37 = .ok (.iload_n 3, 1) := by decide +kernel
theorem dL_arePages_38 : decode cL_arePages 38 = .ok (.iconst 1, 1) := by decide +kernel
theorem dL_arePages_39 : decode cL_arePages 39 = .ok (.iadd, 1) := by decide +kernel
theorem dL_arePages_40 : decode cL_arePages 40 = .ok (.goto 6, 3) := by decide +kernel
theorem dL_arePages_43 : decode cL_arePages 43 = .ok (.iload_n 3, 1) := by decide +kernel
theorem dL_arePages_44 : decode cL_arePages 44 = .ok (.iconst 1, 1) := by decide +kernel
theorem dL_arePages_45 : decode cL_arePages 45 = .ok (.isub, 1) := by decide +kernel
theorem dL_arePages_46 : decode cL_arePages 46 = .ok (.invokestatic 144, 3) := by decide +kernel
theorem dL_arePages_49 : decode cL_arePages 49 = .ok (.istore 5, 2) := by decide +kernel
theorem dL_arePages_51 : decode cL_arePages 51 = .ok (.iload 4, 2) := by decide +kernel
theorem dL_arePages_53 : decode cL_arePages 53 = .ok (.ifCond .lt 76, 3) := by decide +kernel
theorem dL_arePages_56 : decode cL_arePages 56 = .ok (.aload_n 0, 1) := by decide +kernel
theorem dL_arePages_57 : decode cL_arePages 57 = .ok (.iload_n 2, 1) := by decide +kernel
theorem dL_arePages_58 : decode cL_arePages 58 = .ok (.iload 4, 2) := by decide +kernel
theorem dL_arePages_60 : decode cL_arePages 60 = .ok (.bipush 99, 2) := by decide +kernel
theorem dL_arePages_62 : decode cL_arePages 62 = .ok (.if_icmp .le 7, 3) := by decide +kernel
theorem dL_arePages_65 : decode cL_arePages 65 = .ok (.iconst 1, 1) := by decide +kernel
theorem dL_arePages_66 : decode cL_arePages 66 = .ok (.goto 4, 3) := by decide +kernel
theorem dL_arePages_69 : decode cL_arePages 69 = .ok (.iconst 0, 1) := by decide +kernel
theorem dL_arePages_70 : decode cL_arePages 70 = .ok (.iload 4, 2) := by decide +kernel
theorem dL_arePages_72 : decode cL_arePages 72 = .ok (.bipush 10, 2) := by decide +kernel
theorem dL_arePages_74 : decode cL_arePages 74 = .ok (.irem, 1) := by decide +kernel
theorem dL_arePages_75 : decode cL_arePages 75 = .ok (.iload 4, 2) := by decide +kernel
theorem dL_arePages_77 : decode cL_arePages 77 = .ok (.bipush 10, 2) := by decide +kernel
theorem dL_arePages_79 : decode cL_arePages 79 = .ok (.idiv, 1) := by decide +kernel
theorem dL_arePages_80 : decode cL_arePages 80 = .ok (.bipush 10, 2) := by decide +kernel
theorem dL_arePages_82 : decode cL_arePages 82 = .ok (.irem, 1) := by decide +kernel
theorem dL_arePages_83 : decode cL_arePages 83 = .ok (.invokestatic 146, 3) := by decide +kernel
theorem dL_arePages_86 : decode cL_arePages 86 = .ok (.iload_n 3, 1) := by decide +kernel
theorem dL_arePages_87 : decode cL_arePages 87 = .ok (.if_icmp .ne 42, 3) := by decide +kernel
theorem dL_arePages_90 : decode cL_arePages 90 = .ok (.iload 5, 2) := by decide +kernel
theorem dL_arePages_92 : decode cL_arePages 92 = .ok (.bipush 100, 2) := by decide +kernel
theorem dL_arePages_94 : decode cL_arePages 94 = .ok (.irem, 1) := by decide +kernel
theorem dL_arePages_95 : decode cL_arePages 95 = .ok (.iload 4, 2) := by decide +kernel
theorem dL_arePages_97 : decode cL_arePages 97 = .ok (.bipush 100, 2) := by decide +kernel
theorem dL_arePages_99 : decode cL_arePages 99 = .ok (.irem, 1) := by decide +kernel
theorem dL_arePages_100 : decode cL_arePages 100 = .ok (.if_icmp .ne 29, 3) := by decide +kernel
theorem dL_arePages_103 : decode cL_arePages 103 = .ok (.iload 5, 2) := by decide +kernel
theorem dL_arePages_105 : decode cL_arePages 105 = .ok (.iload 4, 2) := by decide +kernel
theorem dL_arePages_107 : decode cL_arePages 107 = .ok (.if_icmp .eq 22, 3) := by decide +kernel
theorem dL_arePages_110 : decode cL_arePages 110 = .ok (.aload_n 0, 1) := by decide +kernel
theorem dL_arePages_111 : decode cL_arePages 111 = .ok (.iload_n 2, 1) := by decide +kernel
theorem dL_arePages_112 : decode cL_arePages 112 = .ok (.iconst 2, 1) := by decide +kernel
theorem dL_arePages_113 : decode cL_arePages 113 = .ok (.iload_n 2, 1) := by decide +kernel
theorem dL_arePages_114 : decode cL_arePages 114 = .ok (.ishl, 1) := by decide +kernel
theorem dL_arePages_115 : decode cL_arePages 115 = .ok (.iconst 1, 1) := by decide +kernel
theorem dL_arePages_116 : decode cL_arePages 116 = .ok (.iadd, 1) := by decide +kernel
theorem dL_arePages_117 : decode cL_arePages 117 = .ok (.invokestatic 144, 3) := by decide +kernel
theorem dL_arePages_120 : decode cL_arePages 120 = .ok (.ldc 21, 2) := by decide +kernel
theorem dL_arePages_122 : decode cL_arePages 122 = .ok (.if_icmp .ne 7, 3) := by decide +kernel
theorem dL_arePages_125 : decode cL_arePages 125 = .ok (.iconst 1, 1) := by decide +kernel
theorem dL_arePages_126 : decode cL_arePages 126 = .ok (.goto 4, 3) := by decide +kernel
theorem dL_arePages_129 : decode cL_arePages 129 = .ok (.iconst 0, 1) := by decide +kernel
theorem dL_arePages_130 : decode cL_arePages 130 = .ok (.ireturn, 1) := by decide +kernel
set_option maxRecDepth 20000 in
theorem ggL_sews_L_ofThread : GoodIn wsL_sews wsL_ofThread := goodIn_ca (goodIn_ca (goodIn_r _ [5, 6, 7, 8, 9, 10, 11, 12, 13, 14, 15, 16, 17, 18, 19, 20, 21, 22, 23, 24, 25, 26, 27, 28, 29, 30, 31, 32, 33, 34, 35, 36, 37, 38, 39, 40, 41, 42, 43, 44, 45, 46, 47, 123, 124, 125, 126, 127, 128, 129, 130, 131, 132, 133, 134, 135, 136, 137, 138, 139, 140, 141, 142, 143, 144, 145, 146] (by decide +kernel) (by decide +kernel)) (goodIn_sub (fun _ h => List.mem_cons_of_mem _ (List.mem_append_left _ (List.mem_append_left _ (List.mem_append_right _ h)))) (by decide +kernel))) (goodIn_sub (fun _ h => List.mem_cons_of_mem _ (List.mem_append_left _ (List.mem_append_right _ h))) (by decide +kernel))
set_option maxRecDepth 20000 in
theorem gL_sews_L_ofThread : GoodIn wsL_sews (va_wsS RL 149 yL_ofThread wsL_ofThread) := goodIn_app (goodIn_of _ (by decide +kernel)) ggL_sews_L_ofThread
set_option maxRecDepth 20000 in
theorem ggL_sews_L_swelling : GoodIn wsL_sews wsL_swelling := goodIn_ca (goodIn_r _ [50, 6, 8, 51, 52, 53, 13, 54, 15, 16, 17, 18, 19, 20, 21, 22, 23, 24, 55, 56, 57, 33, 58, 36, 59, 60, 61, 62, 42, 63, 64, 65, 66, 43, 44, 45, 46, 47, 123, 124, 125, 126, 127, 128, 129, 140, 141, 142, 143, 144, 145, 146, 130, 131, 132, 133, 134, 135, 136, 137, 138, 139] (by decide +kernel) (by decide +kernel)) (goodIn_sub (fun _ h => List.mem_cons_of_mem _ (List.mem_append_left _ (List.mem_append_left _ (List.mem_append_right _ h)))) (by decide +kernel))
set_option maxRecDepth 20000 in
theorem gL_sews_L_swelling : GoodIn wsL_sews (va_wsS RL 151 yL_swelling wsL_swelling) := goodIn_app (goodIn_of _ (by decide +kernel)) ggL_sews_L_swelling
set_option maxRecDepth 20000 in
theorem ggL_sews_L_low : GoodIn wsL_sews wsL_low := goodIn_r _ [69, 70] (by decide +kernel) (by decide +kernel)
set_option maxRecDepth 20000 in
theorem gL_sews_L_low : GoodIn wsL_sews (va_wsS RL 125 yL_low wsL_low) := goodIn_app (goodIn_of _ (by decide +kernel)) ggL_sews_L_low
set_option maxRecDepth 20000 in
theorem ggL_sews_L_unsew : GoodIn wsL_sews wsL_unsew := goodIn_ca (goodIn_ca (goodIn_ca (goodIn_r _ [73, 6, 7, 74, 8, 9, 1, 75, 76, 77, 13, 78, 15, 16, 17, 18, 19, 20, 21, 22, 23, 24, 25, 26, 27, 28, 29, 79, 80, 81, 82, 83, 84, 85, 86, 33, 87, 88, 89, 90, 91, 92, 93, 94, 95, 96, 97, 98, 35, 99, 100, 101, 102, 103, 47, 104, 105, 106, 107, 37, 123, 124, 125, 126, 127, 128, 129, 130, 131, 132, 133, 134, 135, 136, 137, 138, 139, 140, 141, 142, 143, 144, 145, 146] (by decide +kernel) (by decide +kernel)) (goodIn_sub (fun _ h => List.mem_cons_of_mem _ (List.mem_append_left _ (List.mem_append_left _ (List.mem_append_right _ h)))) (by decide +kernel))) (goodIn_sub (fun _ h => List.mem_cons_of_mem _ (List.mem_append_left _ (List.mem_append_right _ h))) (by decide +kernel))) (goodIn_sub (fun _ h => List.mem_cons_of_mem _ (List.mem_append_right _ h)) (by decide +kernel))
set_option maxRecDepth 20000 in
theorem gL_sews_L_unsew : GoodIn wsL_sews (va_wsS RL 154 yL_unsew wsL_unsew) := goodIn_app (goodIn_of _ (by decide +kernel)) ggL_sews_L_unsew
set_option maxRecDepth 20000 in
theorem ggL_sews_L_sew : GoodIn wsL_sews wsL_sew := goodIn_ca (goodIn_ca (goodIn_ca (goodIn_r _ [110, 6, 7, 74, 8, 9, 1, 111, 112, 113, 13, 114, 15, 16, 17, 18, 19, 20, 21, 22, 23, 24, 25, 26, 27, 28, 29, 115, 116, 117, 33, 118, 88, 97, 42, 35, 98, 36, 79, 80, 81, 82, 83, 119, 120, 121, 122, 89, 93, 94, 95, 96, 99, 100, 101, 102, 103, 47, 104, 105, 106, 107, 37, 123, 124, 125, 126, 127, 128, 129, 130, 131, 132, 133, 134, 135, 136, 137, 138, 139, 140, 141, 142, 143, 144, 145, 146] (by decide +kernel) (by decide +kernel)) (goodIn_sub (fun _ h => List.mem_cons_of_mem _ (List.mem_append_left _ (List.mem_append_left _ (List.mem_append_right _ h)))) (by decide +kernel))) (goodIn_sub (fun _ h => List.mem_cons_of_mem _ (List.mem_append_left _ (List.mem_append_right _ h))) (by decide +kernel))) (goodIn_sub (fun _ h => List.mem_cons_of_mem _ (List.mem_append_right _ h)) (by decide +kernel))
set_option maxRecDepth 20000 in
theorem gL_sews_L_sew : GoodIn wsL_sews (va_wsS RL 156 yL_sew wsL_sew) := goodIn_app (goodIn_of _ (by decide +kernel)) ggL_sews_L_sew
theorem dL_sews_0 : decode cL_sews 0 = .ok (.aload_n 0, 1) := by decide +kernel
theorem dL_sews_1 : decode cL_sews 1 = .ok (.iload_n 3, 1) := by decide +kernel
theorem dL_sews_2 : decode cL_sews 2 = .ok (.iconst 0, 1) := by decide +kernel
theorem dL_sews_3 : decode cL_sews 3 = .ok (.invokestatic 149, 3) := by decide +kernel
theorem dL_sews_6 : decode cL_sews 6 = .ok (.istore 6, 2) := by decide +kernel
theorem dL_sews_8 : decode cL_sews 8 = .ok (.aload_n 0, 1) := by decide +kernel
theorem dL_sews_9 : decode cL_sews 9 = .ok (.iload_n 3, 1) := by decide +kernel
theorem dL_sews_10 : decode cL_sews 10 = .ok (.iconst 1, 1) := by decide +kernel
