theorem dL_sews_180 : decode cL_sews 180 = .ok (.invokestatic 156, 3) := by decide +kernel
theorem dL_sews_183 : decode cL_sews 183 = .ok (.istore 13, 2) := by decide +kernel
theorem dL_sews_185 : decode cL_sews 185 = .ok (.iload 13, 2) := by decide +kernel
theorem dL_sews_187 : decode cL_sews 187 = .ok (.ldc 32, 2) := by decide +kernel
theorem dL_sews_189 : decode cL_sews 189 = .ok (.if_icmp .ne 100, 3) := by decide +kernel
theorem dL_sews_192 : decode cL_sews 192 = .ok (.iload 12, 2) := by decide +kernel
theorem dL_sews_194 : decode cL_sews 194 = .ok (.ifCond .le 93, 3) := by decide +kernel
theorem dL_sews_197 : decode cL_sews 197 = .ok (.aload_n 0, 1) := by decide +kernel
theorem dL_sews_198 : decode cL_sews 198 = .ok (.iload_n 3, 1) := by decide +kernel
theorem dL_sews_199 : decode cL_sews 199 = .ok (.iconst 0, 1) := by decide +kernel
theorem dL_sews_200 : decode cL_sews 200 = .ok (.invokestatic 149, 3) := by decide +kernel
theorem dL_sews_203 : decode cL_sews 203 = .ok (.iload 6, 2) := by decide +kernel
theorem dL_sews_205 : decode cL_sews 205 = .ok (.if_icmp .ne 82, 3) := by decide +kernel
theorem dL_sews_208 : decode cL_sews 208 = .ok (.aload_n 0, 1) := by decide +kernel
theorem dL_sews_209 : decode cL_sews 209 = .ok (.iload_n 3, 1) := by decide +kernel
theorem dL_sews_210 : decode cL_sews 210 = .ok (.iconst 1, 1) := by decide +kernel
theorem dL_sews_211 : decode cL_sews 211 = .ok (.invokestatic 149, 3) := by decide +kernel
theorem dL_sews_214 : decode cL_sews 214 = .ok (.iload 7, 2) := by decide +kernel
theorem dL_sews_216 : decode cL_sews 216 = .ok (.if_icmp .ne 71, 3) := by decide +kernel
theorem dL_sews_219 : decode cL_sews 219 = .ok (.aload_n 0, 1) := by decide +kernel
theorem dL_sews_220 : decode cL_sews 220 = .ok (.iload_n 3, 1) := by decide +kernel
theorem dL_sews_221 : decode cL_sews 221 = .ok (.iconst 2, 1) := by decide +kernel
theorem dL_sews_222 : decode cL_sews 222 = .ok (.invokestatic 149, 3) := by decide +kernel
theorem dL_sews_225 : decode cL_sews 225 = .ok (.iload 8, 2) := by decide +kernel
theorem dL_sews_227 : decode cL_sews 227 = .ok (.if_icmp .ne 60, 3) := by decide +kernel
theorem dL_sews_230 : decode cL_sews 230 = .ok (.iload 12, 2) := by decide +kernel
theorem dL_sews_232 : decode cL_sews 232 = .ok (.iconst 3, 1) := by decide +kernel
theorem dL_sews_233 : decode cL_sews 233 = .ok (.if_icmp .ge 26, 3) := by decide +kernel
theorem dL_sews_236 : decode cL_sews 236 = .ok (.iload 8, 2) := by decide +kernel
theorem dL_sews_238 : decode cL_sews 238 = .ok (.ifCond .eq 45, 3) := by decide +kernel
theorem dL_sews_241 : decode cL_sews 241 = .ok (.iload 8, 2) := by decide +kernel
theorem dL_sews_243 : decode cL_sews 243 = .ok (.aload_n 1, 1) := by decide +kernel
theorem dL_sews_244 : decode cL_sews 244 = .ok (.bipush 6, 2) := by decide +kernel
theorem dL_sews_246 : decode cL_sews 246 = .ok (.iload_n 3, 1) := by decide +kernel
theorem dL_sews_247 : decode cL_sews 247 = .ok (.imul, 1) := by decide +kernel
theorem dL_sews_248 : decode cL_sews 248 = .ok (.iconst 2, 1) := by decide +kernel
theorem dL_sews_249 : decode cL_sews 249 = .ok (.iadd, 1) := by decide +kernel
theorem dL_sews_250 : decode cL_sews 250 = .ok (.iaload, 1) := by decide +kernel
theorem dL_sews_251 : decode cL_sews 251 = .ok (.iconst 1, 1) := by decide +kernel
theorem dL_sews_252 : decode cL_sews 252 = .ok (.isub, 1) := by decide +kernel
theorem dL_sews_253 : decode cL_sews 253 = .ok (.if_icmp .ne 34, 3) := by decide +kernel
theorem dL_sews_256 : decode cL_sews 256 = .ok (.goto 27, 3) := by decide +kernel
theorem dL_sews_259 : decode cL_sews 259 = .ok (.iload 9, 2) := by decide +kernel
theorem dL_sews_261 : decode cL_sews 261 = .ok (.iconst 1, 1) := by decide +kernel
theorem dL_sews_262 : decode cL_sews 262 = .ok (.if_icmp .eq 21, 3) := by decide +kernel
theorem dL_sews_265 : decode cL_sews 265 = .ok (.iload 7, 2) := by decide +kernel
theorem dL_sews_267 : decode cL_sews 267 = .ok (.ifCond .eq 16, 3) := by decide +kernel
theorem dL_sews_270 : decode cL_sews 270 = .ok (.iload 7, 2) := by decide +kernel
theorem dL_sews_272 : decode cL_sews 272 = .ok (.aload_n 1, 1) := by decide +kernel
theorem dL_sews_273 : decode cL_sews 273 = .ok (.bipush 6, 2) := by decide +kernel
theorem dL_sews_275 : decode cL_sews 275 = .ok (.iload_n 3, 1) := by decide +kernel
theorem dL_sews_276 : decode cL_sews 276 = .ok (.imul, 1) := by decide +kernel
theorem dL_sews_277 : decode cL_sews 277 = .ok (.iaload, 1) := by decide +kernel
theorem dL_sews_278 : decode cL_sews 278 = .ok (.iconst 1, 1) := by decide +kernel
theorem dL_sews_279 : decode cL_sews 279 = .ok (.isub, 1) := by decide +kernel
theorem dL_sews_280 : decode cL_sews 280 = .ok (.if_icmp .ne 7, 3) := by decide +kernel
theorem dL_sews_283 : decode cL_sews 283 = .ok (.iconst 1, 1) := by decide +kernel
theorem dL_sews_284 : decode cL_sews 284 = .ok (.goto 4, 3) := by decide +kernel
theorem dL_sews_287 : decode cL_sews 287 = .ok (.iconst 0, 1) := by decide +kernel
theorem dL_sews_288 : decode cL_sews 288 = .ok (.ireturn, 1) := by decide +kernel
theorem dL_sews_289 : decode cL_sews 289 = .ok (.aload_n 2, 1) := by decide +kernel
theorem dL_sews_290 : decode cL_sews 290 = .ok (.iload_n 3, 1) := by decide +kernel
theorem dL_sews_291 : decode cL_sews 291 = .ok (.dup2, 1) := by decide +kernel
theorem dL_sews_292 : decode cL_sews 292 = .ok (.iaload, 1) := by decide +kernel
theorem dL_sews_293 : decode cL_sews 293 = .ok (.iconst 1, 1) := by decide +kernel
theorem dL_sews_294 : decode cL_sews 294 = .ok (.iadd, 1) := by decide +kernel
theorem dL_sews_295 : decode cL_sews 295 = .ok (.iastore, 1) := by decide +kernel
theorem dL_sews_296 : decode cL_sews 296 = .ok (.iload 12, 2) := by decide +kernel
theorem dL_sews_298 : decode cL_sews 298 = .ok (.ifCond .ne 7, 3) := by decide +kernel
theorem dL_sews_301 : decode cL_sews 301 = .ok (.iconst 0, 1) := by decide +kernel
theorem dL_sews_302 : decode cL_sews 302 = .ok (.goto 15, 3) := by decide +kernel
theorem dL_sews_305 : decode cL_sews 305 = .ok (.iload 12, 2) := by decide +kernel
theorem dL_sews_307 : decode cL_sews 307 = .ok (.iconst 3, 1) := by decide +kernel
theorem dL_sews_308 : decode cL_sews 308 = .ok (.if_icmp .ge 8, 3) := by decide +kernel
theorem dL_sews_311 : decode cL_sews 311 = .ok (.bipush 10, 2) := by decide +kernel
theorem dL_sews_313 : decode cL_sews 313 = .ok (.goto 4, 3) := by decide +kernel
theorem dL_sews_316 : decode cL_sews 316 = .ok (.iconst 4, 1) := by decide +kernel
theorem dL_sews_317 : decode cL_sews 317 = .ok (.istore 14, 2) := by decide +kernel
theorem dL_sews_319 : decode cL_sews 319 = .ok (.iload 13, 2) := by decide +kernel
theorem dL_sews_321 : decode cL_sews 321 = .ok (.iload 6, 2) := by decide +kernel
theorem dL_sews_323 : decode cL_sews 323 = .ok (.iload 14, 2) := by decide +kernel
theorem dL_sews_325 : decode cL_sews 325 = .ok (.iadd, 1) := by decide +kernel
theorem dL_sews_326 : decode cL_sews 326 = .ok (.if_icmp .ne 108, 3) := by decide +kernel
theorem dL_sews_329 : decode cL_sews 329 = .ok (.aload_n 0, 1) := by decide +kernel
theorem dL_sews_330 : decode cL_sews 330 = .ok (.iload_n 3, 1) := by decide +kernel
theorem dL_sews_331 : decode cL_sews 331 = .ok (.iconst 1, 1) := by decide +kernel
theorem dL_sews_332 : decode cL_sews 332 = .ok (.invokestatic 149, 3) := by decide +kernel
theorem dL_sews_335 : decode cL_sews 335 = .ok (.iload 7, 2) := by decide +kernel
theorem dL_sews_337 : decode cL_sews 337 = .ok (.iload 12, 2) := by decide +kernel
theorem dL_sews_339 : decode cL_sews 339 = .ok (.iconst 3, 1) := by decide +kernel
theorem dL_sews_340 : decode cL_sews 340 = .ok (.if_icmp .ne 7, 3) := by decide +kernel
theorem dL_sews_343 : decode cL_sews 343 = .ok (.iconst 1, 1) := by decide +kernel
theorem dL_sews_344 : decode cL_sews 344 = .ok (.goto 14, 3) := by decide +kernel
theorem dL_sews_347 : decode cL_sews 347 = .ok (.iload 12, 2) := by decide +kernel
theorem dL_sews_349 : decode cL_sews 349 = .ok (.iconst 4, 1) := by decide +kernel
theorem dL_sews_350 : decode cL_sews 350 = .ok (.if_icmp .ne 7, 3) := by decide +kernel
theorem dL_sews_353 : decode cL_sews 353 = .ok (.iconst (-1), 1) := by decide +kernel
theorem dL_sews_354 : decode cL_sews 354 = .ok (.goto 4, 3) := by decide +kernel
theorem dL_sews_357 : decode cL_sews 357 = .ok (.iconst 0, 1) := by decide +kernel
theorem dL_sews_358 : decode cL_sews 358 = .ok (.iadd, 1) := by decide +kernel
theorem dL_sews_359 : decode cL_sews 359 = .ok (.if_icmp .ne 75, 3) := by decide +kernel
theorem dL_sews_362 : decode cL_sews 362 = .ok (.aload_n 0, 1) := by decide +kernel
theorem dL_sews_363 : decode cL_sews 363 = .ok (.iload_n 3, 1) := by decide +kernel
theorem dL_sews_364 : decode cL_sews 364 = .ok (.iconst 2, 1) := by decide +kernel
theorem dL_sews_365 : decode cL_sews 365 = .ok (.invokestatic 149, 3) := by decide +kernel
theorem dL_sews_368 : decode cL_sews 368 = .ok (.iload 8, 2) := by decide +kernel
theorem dL_sews_370 : decode cL_sews 370 = .ok (.iload 12, 2) := by decide +kernel
theorem dL_sews_372 : decode cL_sews 372 = .ok (.iconst 1, 1) := by decide +kernel
theorem dL_sews_373 : decode cL_sews 373 = .ok (.if_icmp .ne 7, 3) := by decide +kernel
theorem dL_sews_376 : decode cL_sews 376 = .ok (.iconst 1, 1) := by decide +kernel
theorem dL_sews_377 : decode cL_sews 377 = .ok (.goto 14, 3) := by decide +kernel
theorem dL_sews_380 : decode cL_sews 380 = .ok (.iload 12, 2) := by decide +kernel
theorem dL_sews_382 : decode cL_sews 382 = .ok (.iconst 2, 1) := by decide +kernel
theorem dL_sews_383 : decode cL_sews 383 = .ok (.if_icmp .ne 7, 3) := by decide +kernel
theorem dL_sews_386 : decode cL_sews 386 = .ok (.iconst (-1), 1) := by decide +kernel
theorem dL_sews_387 : decode cL_sews 387 = .ok (.goto 4, 3) := by decide +kernel
theorem dL_sews_390 : decode cL_sews 390 = .ok (.iconst 0, 1) := by decide +kernel
theorem dL_sews_391 : decode cL_sews 391 = .ok (.iadd, 1) := by decide +kernel
theorem dL_sews_392 : decode cL_sews 392 = .ok (.if_icmp .ne 42, 3) := by decide +kernel
theorem dL_sews_395 : decode cL_sews 395 = .ok (.aload_n 0, 1) := by decide +kernel
theorem dL_sews_396 : decode cL_sews 396 = .ok (.iload_n 3, 1) := by decide +kernel
theorem dL_sews_397 : decode cL_sews 397 = .ok (.iconst 3, 1) := by decide +kernel
theorem dL_sews_398 : decode cL_sews 398 = .ok (.invokestatic 149, 3) := by decide +kernel
theorem dL_sews_401 : decode cL_sews 401 = .ok (.iload 12, 2) := by decide +kernel
theorem dL_sews_403 : decode cL_sews 403 = .ok (.ifCond .ne 10, 3) := by decide +kernel
theorem dL_sews_406 : decode cL_sews 406 = .ok (.iconst 1, 1) := by decide +kernel
theorem dL_sews_407 : decode cL_sews 407 = .ok (.iload 9, 2) := by decide +kernel
theorem dL_sews_409 : decode cL_sews 409 = .ok (.isub, 1) := by decide +kernel
theorem dL_sews_410 : decode cL_sews 410 = .ok (.goto 5, 3) := by decide +kernel
theorem dL_sews_413 : decode cL_sews 413 = .ok (.iload 9, 2) := by decide +kernel
theorem dL_sews_415 : decode cL_sews 415 = .ok (.if_icmp .ne 19, 3) := by decide +kernel
theorem dL_sews_418 : decode cL_sews 418 = .ok (.aload_n 0, 1) := by decide +kernel
theorem dL_sews_419 : decode cL_sews 419 = .ok (.iload_n 3, 1) := by decide +kernel
theorem dL_sews_420 : decode cL_sews 420 = .ok (.iconst 4, 1) := by decide +kernel
theorem dL_sews_421 : decode cL_sews 421 = .ok (.invokestatic 149, 3) := by decide +kernel
theorem dL_sews_424 : decode cL_sews 424 = .ok (.aload_n 2, 1) := by decide +kernel
theorem dL_sews_425 : decode cL_sews 425 = .ok (.iload_n 3, 1) := by decide +kernel
theorem dL_sews_426 : decode cL_sews 426 = .ok (.iaload, 1) := by decide +kernel
theorem dL_sews_427 : decode cL_sews 427 = .ok (.if_icmp .ne 7, 3) := by decide +kernel
theorem dL_sews_430 : decode cL_sews 430 = .ok (.iconst 1, 1) := by decide +kernel
theorem dL_sews_431 : decode cL_sews 431 = .ok (.goto 4, 3) := by decide +kernel
theorem dL_sews_434 : decode cL_sews 434 = .ok (.iconst 0, 1) := by decide +kernel
theorem dL_sews_435 : decode cL_sews 435 = .ok (.istore 15, 2) := by decide +kernel
theorem dL_sews_437 : decode cL_sews 437 = .ok (.iload 15, 2) := by decide +kernel
theorem dL_sews_439 : decode cL_sews 439 = .ok (.ifCond .eq 62, 3) := by decide +kernel
theorem dL_sews_442 : decode cL_sews 442 = .ok (.iload 5, 2) := by decide +kernel
theorem dL_sews_444 : decode cL_sews 444 = .ok (.iconst 3, 1) := by decide +kernel
theorem dL_sews_445 : decode cL_sews 445 = .ok (.ishr, 1) := by decide +kernel
theorem dL_sews_446 : decode cL_sews 446 = .ok (.iconst 4, 1) := by decide +kernel
theorem dL_sews_447 : decode cL_sews 447 = .ok (.invokestatic 125, 3) := by decide +kernel
theorem dL_sews_450 : decode cL_sews 450 = .ok (.ifCond .gt 47, 3) := by decide +kernel
theorem dL_sews_453 : decode cL_sews 453 = .ok (.aload_n 0, 1) := by decide +kernel
theorem dL_sews_454 : decode cL_sews 454 = .ok (.iload_n 3, 1) := by decide +kernel
theorem dL_sews_455 : decode cL_sews 455 = .ok (.iconst 1, 1) := by decide +kernel
theorem dL_sews_456 : decode cL_sews 456 = .ok (.invokestatic 154, 3) := by decide +kernel
theorem dL_sews_459 : decode cL_sews 459 = .ok (.iload 6, 2) := by decide +kernel
theorem dL_sews_461 : decode cL_sews 461 = .ok (.if_icmp .ne 40, 3) := by decide +kernel
theorem dL_sews_464 : decode cL_sews 464 = .ok (.aload_n 0, 1) := by decide +kernel
theorem dL_sews_465 : decode cL_sews 465 = .ok (.iload_n 3, 1) := by decide +kernel
theorem dL_sews_466 : decode cL_sews 466 = .ok (.invokestatic 151, 3) := by decide +kernel
theorem dL_sews_469 : decode cL_sews 469 = .ok (.iload 10, 2) := by decide +kernel
theorem dL_sews_471 : decode cL_sews 471 = .ok (.if_icmp .ne 30, 3) := by decide +kernel
theorem dL_sews_474 : decode cL_sews 474 = .ok (.aload_n 0, 1) := by decide +kernel
theorem dL_sews_475 : decode cL_sews 475 = .ok (.iload_n 3, 1) := by decide +kernel
theorem dL_sews_476 : decode cL_sews 476 = .ok (.iconst 5, 1) := by decide +kernel
theorem dL_sews_477 : decode cL_sews 477 = .ok (.invokestatic 149, 3) := by decide +kernel
theorem dL_sews_480 : decode cL_sews 480 = .ok (.iload 11, 2) := by decide +kernel
theorem dL_sews_482 : decode cL_sews 482 = .ok (.if_icmp .ne 19, 3) := by decide +kernel
theorem dL_sews_485 : decode cL_sews 485 = .ok (.aload_n 0, 1) := by decide +kernel
theorem dL_sews_486 : decode cL_sews 486 = .ok (.iload_n 3, 1) := by decide +kernel
theorem dL_sews_487 : decode cL_sews 487 = .ok (.iload 12, 2) := by decide +kernel
theorem dL_sews_489 : decode cL_sews 489 = .ok (.invokestatic 156, 3) := by decide +kernel
theorem dL_sews_492 : decode cL_sews 492 = .ok (.iload 13, 2) := by decide +kernel
theorem dL_sews_494 : decode cL_sews 494 = .ok (.if_icmp .ne 7, 3) := by decide +kernel
theorem dL_sews_497 : decode cL_sews 497 = .ok (.iconst 1, 1) := by decide +kernel
theorem dL_sews_498 : decode cL_sews 498 = .ok (.goto 4, 3) := by decide +kernel
theorem dL_sews_501 : decode cL_sews 501 = .ok (.iconst 0, 1) := by decide +kernel
theorem dL_sews_502 : decode cL_sews 502 = .ok (.ireturn, 1) := by decide +kernel
set_option maxRecDepth 20000 in
theorem ggL_isBook_L_swelling_q0 : GoodIn wsL_isBook (.codeWith yL_swelling cL_swelling 3 (some .int) [(0, 5, 6, 16)] :: wsL_swelling_r1) := goodIn_r _ [7, 8, 2, 9, 10, 11, 12, 13, 14, 15, 16, 17, 18, 19, 20, 21, 22, 23, 24, 25, 26, 27, 28, 29, 30] (by decide +kernel) (by decide +kernel)
set_option maxRecDepth 20000 in
theorem ggL_isBook_L_swelling_q1 : GoodIn wsL_isBook (wsL_swelling_r2) := goodIn_r _ [31, 32, 33, 34, 35, 36, 37, 38, 39, 40, 41, 42, 43] (by decide +kernel) (by decide +kernel)
set_option maxRecDepth 20000 in
theorem ggL_isBook_L_swelling_q2 : GoodIn wsL_isBook (wsX10) := goodIn_r _ [134, 135, 136, 137, 138, 139, 140] (by decide +kernel) (by decide +kernel)
set_option maxRecDepth 20000 in
theorem ggL_isBook_L_swelling_q3 : GoodIn wsL_isBook (wsX70) := goodIn_r _ [141, 142, 143, 144, 145, 146, 147] (by decide +kernel) (by decide +kernel)
set_option maxRecDepth 20000 in
theorem ggL_isBook_L_swelling_q4 : GoodIn wsL_isBook (wsX40) := goodIn_r _ [148, 149, 150, 151, 152, 153, 154, 155, 156, 157] (by decide +kernel) (by decide +kernel)
set_option maxRecDepth 20000 in
theorem ggL_isBook_L_swelling : GoodIn wsL_isBook wsL_swelling := goodIn_ca (goodIn_ca (goodIn_ca (goodIn_ca (goodIn_ca ggL_isBook_L_swelling_q0 ggL_isBook_L_swelling_q1) ggL_isBook_L_swelling_q2) ggL_isBook_L_swelling_q3) ggL_isBook_L_swelling_q4) (goodIn_sub (fun _ h => List.mem_cons_of_mem _ (List.mem_append_left _ (List.mem_append_right _ h))) (by decide +kernel))
set_option maxRecDepth 20000 in
theorem gL_isBook_L_swelling : GoodIn wsL_isBook (va_wsS RL 151 yL_swelling wsL_swelling) := goodIn_app (goodIn_of _ (by decide +kernel)) ggL_isBook_L_swelling
set_option maxRecDepth 20000 in
theorem ggL_isBook_L_ofThread_q0 : GoodIn wsL_isBook (.codeWith yL_ofThread cL_ofThread 4 (some .int) [(0, 6, 7, 16), (0, 6, 11, 19)] :: wsL_ofThread_r1) := goodIn_r _ [46, 8, 47, 2, 1, 48, 49, 50, 12, 51, 14, 15, 16, 17, 18, 19, 20, 21, 22, 23, 52, 53, 54, 55, 56] (by decide +kernel) (by decide +kernel)
set_option maxRecDepth 20000 in
theorem ggL_isBook_L_ofThread_q1 : GoodIn wsL_isBook (wsL_ofThread_r2) := goodIn_r _ [57, 58, 59, 27, 60, 61, 29, 62, 63, 64, 65, 66, 34, 39, 40, 41, 42, 43] (by decide +kernel) (by decide +kernel)
set_option maxRecDepth 20000 in
theorem ggL_isBook_L_ofThread_q2 : GoodIn wsL_isBook (wsX10) := goodIn_r _ [134, 135, 136, 137, 138, 139, 140] (by decide +kernel) (by decide +kernel)
set_option maxRecDepth 20000 in
theorem ggL_isBook_L_ofThread_q3 : GoodIn wsL_isBook (wsX40) := goodIn_r _ [148, 149, 150, 151, 152, 153, 154, 155, 156, 157] (by decide +kernel) (by decide +kernel)
set_option maxRecDepth 20000 in
theorem ggL_isBook_L_ofThread_q4 : GoodIn wsL_isBook (wsX70) := goodIn_r _ [141, 142, 143, 144, 145, 146, 147] (by decide +kernel) (by decide +kernel)
set_option maxRecDepth 20000 in
theorem ggL_isBook_L_ofThread : GoodIn wsL_isBook wsL_ofThread := goodIn_ca (goodIn_ca (goodIn_ca (goodIn_ca (goodIn_ca (goodIn_ca ggL_isBook_L_ofThread_q0 ggL_isBook_L_ofThread_q1) ggL_isBook_L_ofThread_q2) ggL_isBook_L_ofThread_q3) ggL_isBook_L_ofThread_q4) (goodIn_sub (fun _ h => List.mem_cons_of_mem _ (List.mem_append_left _ (List.mem_append_right _ h))) (by decide +kernel))) (goodIn_sub (fun _ h => List.mem_cons_of_mem _ (List.mem_append_right _ h)) (by decide +kernel))
set_option maxRecDepth 20000 in
theorem gL_isBook_L_ofThread : GoodIn wsL_isBook (va_wsS RL 149 yL_ofThread wsL_ofThread) := goodIn_app (goodIn_of _ (by decide +kernel)) ggL_isBook_L_ofThread
set_option maxRecDepth 20000 in
theorem ggL_isBook_L_isHeld_q0 : GoodIn wsL_isBook (.codeWith yL_isHeld cL_isHeld 4 (some .int) [(0, 14, 15, 16)] :: wsL_isHeld_r1) := goodIn_r _ [69, 8, 2, 70, 71, 72, 12, 73, 14, 15, 16, 17, 18, 19, 20, 21, 22, 23, 74, 75, 76, 77, 64, 65, 27] (by decide +kernel) (by decide +kernel)
set_option maxRecDepth 20000 in
theorem ggL_isBook_L_isHeld_q1 : GoodIn wsL_isBook (wsL_isHeld_r2) := goodIn_r _ [66, 34, 39, 40, 41, 42, 43] (by decide +kernel) (by decide +kernel)
set_option maxRecDepth 20000 in
theorem ggL_isBook_L_isHeld_q2 : GoodIn wsL_isBook (wsX10) := goodIn_r _ [134, 135, 136, 137, 138, 139, 140] (by decide +kernel) (by decide +kernel)
set_option maxRecDepth 20000 in
theorem ggL_isBook_L_isHeld_q3 : GoodIn wsL_isBook (wsX40) := goodIn_r _ [148, 149, 150, 151, 152, 153, 154, 155, 156, 157] (by decide +kernel) (by decide +kernel)
set_option maxRecDepth 20000 in
theorem ggL_isBook_L_isHeld_q4 : GoodIn wsL_isBook (wsX70) := goodIn_r _ [141, 142, 143, 144, 145, 146, 147] (by decide +kernel) (by decide +kernel)
set_option maxRecDepth 20000 in
theorem ggL_isBook_L_isHeld : GoodIn wsL_isBook wsL_isHeld := goodIn_ca (goodIn_ca (goodIn_ca (goodIn_ca (goodIn_ca ggL_isBook_L_isHeld_q0 ggL_isBook_L_isHeld_q1) ggL_isBook_L_isHeld_q2) ggL_isBook_L_isHeld_q3) ggL_isBook_L_isHeld_q4) (goodIn_sub (fun _ h => List.mem_cons_of_mem _ (List.mem_append_left _ (List.mem_append_right _ h))) (by decide +kernel))
set_option maxRecDepth 20000 in
theorem gL_isBook_L_isHeld : GoodIn wsL_isBook (va_wsS RL 158 yL_isHeld wsL_isHeld) := goodIn_app (goodIn_of _ (by decide +kernel)) ggL_isBook_L_isHeld
set_option maxRecDepth 20000 in
theorem ggL_isBook_L_stitches_q0 : GoodIn wsL_isBook (.codeWith yL_stitches cL_stitches 5 (some .int) [(0, 7, 8, 16)] :: wsL_stitches_r1) := goodIn_r _ [80, 8, 2, 81, 82, 83, 12, 84, 14, 15, 16, 17, 18, 19, 20, 21, 22, 23, 74, 75, 76, 85, 40, 41, 27] (by decide +kernel) (by decide +kernel)
set_option maxRecDepth 20000 in
theorem ggL_isBook_L_stitches_q1 : GoodIn wsL_isBook (wsL_stitches_r2) := goodIn_r _ [42, 43] (by decide +kernel) (by decide +kernel)
set_option maxRecDepth 20000 in
theorem ggL_isBook_L_stitches_q2 : GoodIn wsL_isBook (wsX10) := goodIn_r _ [134, 135, 136, 137, 138, 139, 140] (by decide +kernel) (by decide +kernel)
set_option maxRecDepth 20000 in
theorem ggL_isBook_L_stitches_q3 : GoodIn wsL_isBook (wsX40) := goodIn_r _ [148, 149, 150, 151, 152, 153, 154, 155, 156, 157] (by decide +kernel) (by decide +kernel)
set_option maxRecDepth 20000 in
theorem ggL_isBook_L_stitches_q4 : GoodIn wsL_isBook (wsX70) := goodIn_r _ [141, 142, 143, 144, 145, 146, 147] (by decide +kernel) (by decide +kernel)
set_option maxRecDepth 20000 in
theorem ggL_isBook_L_stitches : GoodIn wsL_isBook wsL_stitches := goodIn_ca (goodIn_ca (goodIn_ca (goodIn_ca (goodIn_ca ggL_isBook_L_stitches_q0 ggL_isBook_L_stitches_q1) ggL_isBook_L_stitches_q2) ggL_isBook_L_stitches_q3) ggL_isBook_L_stitches_q4) (goodIn_sub (fun _ h => List.mem_cons_of_mem _ (List.mem_append_left _ (List.mem_append_right _ h))) (by decide +kernel))
set_option maxRecDepth 20000 in
theorem gL_isBook_L_stitches : GoodIn wsL_isBook (va_wsS RL 160 yL_stitches wsL_stitches) := goodIn_app (goodIn_of _ (by decide +kernel)) ggL_isBook_L_stitches
set_option maxRecDepth 20000 in
theorem ggL_isBook_L_worst_q0 : GoodIn wsL_isBook (.codeWith yL_worst cL_worst 3 (some .int) [(0, 5, 6, 16)] :: wsL_worst_r1) := goodIn_r _ [88, 8, 2, 89, 90, 91, 12, 92, 14, 15, 16, 17, 18, 19, 20, 21, 22, 23, 93, 94, 95, 96, 97, 98, 99] (by decide +kernel) (by decide +kernel)
set_option maxRecDepth 20000 in
theorem ggL_isBook_L_worst_q1 : GoodIn wsL_isBook (wsL_worst_r2) := goodIn_r _ [100, 101, 102, 103, 104, 37, 105, 106, 107, 108, 109, 110, 111] (by decide +kernel) (by decide +kernel)
set_option maxRecDepth 20000 in
theorem ggL_isBook_L_worst_q2 : GoodIn wsL_isBook (wsX70) := goodIn_r _ [141, 142, 143, 144, 145, 146, 147] (by decide +kernel) (by decide +kernel)
set_option maxRecDepth 20000 in
theorem ggL_isBook_L_worst_q3 : GoodIn wsL_isBook (wsX10) := goodIn_r _ [134, 135, 136, 137, 138, 139, 140] (by decide +kernel) (by decide +kernel)
set_option maxRecDepth 20000 in
theorem ggL_isBook_L_worst : GoodIn wsL_isBook wsL_worst := goodIn_ca (goodIn_ca (goodIn_ca (goodIn_ca ggL_isBook_L_worst_q0 ggL_isBook_L_worst_q1) ggL_isBook_L_worst_q2) ggL_isBook_L_worst_q3) (goodIn_sub (fun _ h => List.mem_cons_of_mem _ (List.mem_append_left _ (List.mem_append_right _ h))) (by decide +kernel))
set_option maxRecDepth 20000 in
theorem gL_isBook_L_worst : GoodIn wsL_isBook (va_wsS RL 162 yL_worst wsL_worst) := goodIn_app (goodIn_of _ (by decide +kernel)) ggL_isBook_L_worst
set_option maxRecDepth 20000 in
theorem ggL_isBook_L_strain_q0 : GoodIn wsL_isBook (.codeWith yL_strain cL_strain 4 (some .int) [(0, 6, 7, 16), (0, 6, 11, 19)] :: wsL_strain_r1) := goodIn_r _ [114, 8, 47, 2, 1, 115, 116, 117, 12, 118, 14, 15, 16, 17, 18, 19, 20, 21, 22, 23, 52, 53, 54, 55, 56] (by decide +kernel) (by decide +kernel)
set_option maxRecDepth 20000 in
theorem ggL_isBook_L_strain_q1 : GoodIn wsL_isBook (wsL_strain_r2) := goodIn_r _ [119, 100, 101, 96, 102, 98, 103, 104, 37, 105, 106, 107, 108, 109, 110, 111, 24, 25, 26, 27, 28, 29, 30, 31] (by decide +kernel) (by decide +kernel)
set_option maxRecDepth 20000 in
theorem ggL_isBook_L_strain_q2 : GoodIn wsL_isBook (wsL_strain_r3) := goodIn_r _ [32, 33, 34, 35, 36, 38, 39, 40, 41, 42, 43] (by decide +kernel) (by decide +kernel)
set_option maxRecDepth 20000 in
theorem ggL_isBook_L_strain_q3 : GoodIn wsL_isBook (wsX10) := goodIn_r _ [134, 135, 136, 137, 138, 139, 140] (by decide +kernel) (by decide +kernel)
set_option maxRecDepth 20000 in
theorem ggL_isBook_L_strain_q4 : GoodIn wsL_isBook (wsX70) := goodIn_r _ [141, 142, 143, 144, 145, 146, 147] (by decide +kernel) (by decide +kernel)
set_option maxRecDepth 20000 in
theorem ggL_isBook_L_strain_q5 : GoodIn wsL_isBook (wsX40) := goodIn_r _ [148, 149, 150, 151, 152, 153, 154, 155, 156, 157] (by decide +kernel) (by decide +kernel)
set_option maxRecDepth 20000 in
theorem ggL_isBook_L_strain : GoodIn wsL_isBook wsL_strain := goodIn_ca (goodIn_ca (goodIn_ca (goodIn_ca (goodIn_ca (goodIn_ca ggL_isBook_L_strain_q0 (goodIn_app ggL_isBook_L_strain_q1 ggL_isBook_L_strain_q2)) ggL_isBook_L_strain_q3) ggL_isBook_L_strain_q4) ggL_isBook_L_strain_q5) (goodIn_sub (fun _ h => List.mem_cons_of_mem _ (List.mem_append_left _ (List.mem_append_right _ h))) (by decide +kernel))) (goodIn_sub (fun _ h => List.mem_cons_of_mem _ (List.mem_append_right _ h)) (by decide +kernel))
set_option maxRecDepth 20000 in
theorem gL_isBook_L_strain : GoodIn wsL_isBook (va_wsS RL 164 yL_strain wsL_strain) := goodIn_app (goodIn_of _ (by decide +kernel)) ggL_isBook_L_strain
set_option maxRecDepth 20000 in
theorem ggL_isBook_L_opens_q0 : GoodIn wsL_isBook (.codeWith yL_opens cL_opens 4 (some .int) [(0, 6, 7, 16), (0, 6, 11, 19)] :: wsL_opens_r1) := goodIn_r _ [122, 8, 47, 2, 1, 123, 124, 125, 12, 126, 127, 14, 15, 16, 17, 18, 19, 20, 21, 22, 23, 52, 53, 54, 55] (by decide +kernel) (by decide +kernel)
set_option maxRecDepth 20000 in
theorem ggL_isBook_L_opens_q1 : GoodIn wsL_isBook (wsL_opens_r2) := goodIn_r _ [56, 128, 129, 130, 96, 131, 132, 98, 133, 25, 26, 27, 28, 29, 30, 31, 32, 33, 34, 35, 36, 37, 38, 39] (by decide +kernel) (by decide +kernel)
set_option maxRecDepth 20000 in
theorem ggL_isBook_L_opens_q2 : GoodIn wsL_isBook (wsL_opens_r3) := goodIn_r _ [40, 41, 42, 43, 99, 100, 101, 102, 103, 104, 105, 106, 107, 108, 109, 110, 111] (by decide +kernel) (by decide +kernel)
set_option maxRecDepth 20000 in
theorem ggL_isBook_L_opens_q3 : GoodIn wsL_isBook (wsX70) := goodIn_r _ [141, 142, 143, 144, 145, 146, 147] (by decide +kernel) (by decide +kernel)
set_option maxRecDepth 20000 in
theorem ggL_isBook_L_opens_q4 : GoodIn wsL_isBook (wsX10) := goodIn_r _ [134, 135, 136, 137, 138, 139, 140] (by decide +kernel) (by decide +kernel)
set_option maxRecDepth 20000 in
theorem ggL_isBook_L_opens_q5 : GoodIn wsL_isBook (wsX40) := goodIn_r _ [148, 149, 150, 151, 152, 153, 154, 155, 156, 157] (by decide +kernel) (by decide +kernel)
set_option maxRecDepth 20000 in
theorem ggL_isBook_L_opens : GoodIn wsL_isBook wsL_opens := goodIn_ca (goodIn_ca (goodIn_ca (goodIn_ca (goodIn_ca (goodIn_ca ggL_isBook_L_opens_q0 (goodIn_app ggL_isBook_L_opens_q1 ggL_isBook_L_opens_q2)) ggL_isBook_L_opens_q3) ggL_isBook_L_opens_q4) ggL_isBook_L_opens_q5) (goodIn_sub (fun _ h => List.mem_cons_of_mem _ (List.mem_append_left _ (List.mem_append_right _ h))) (by decide +kernel))) (goodIn_sub (fun _ h => List.mem_cons_of_mem _ (List.mem_append_right _ h)) (by decide +kernel))
set_option maxRecDepth 20000 in
theorem gL_isBook_L_opens : GoodIn wsL_isBook (va_wsS RL 167 yL_opens wsL_opens) := goodIn_app (goodIn_of _ (by decide +kernel)) ggL_isBook_L_opens
theorem dL_isBook_0 : decode cL_isBook 0 = .ok (.aload_n 1, 1) := by decide +kernel
theorem dL_isBook_1 : decode cL_isBook 1 = .ok (.bipush 6, 2) := by decide +kernel
theorem dL_isBook_3 : decode cL_isBook 3 = .ok (.iload_n 2, 1) := by decide +kernel
theorem dL_isBook_4 : decode cL_isBook 4 = .ok (.imul, 1) := by decide +kernel
theorem dL_isBook_5 : decode cL_isBook 5 = .ok (.iaload, 1) := by decide +kernel
theorem dL_isBook_6 : decode cL_isBook 6 = .ok (.istore_n 3, 1) := by decide +kernel
theorem dL_isBook_7 : decode cL_isBook 7 = .ok (.iload_n 3, 1) := by decide +kernel
theorem dL_isBook_8 : decode cL_isBook 8 = .ok (.aload_n 1, 1) := by decide +kernel
theorem dL_isBook_9 : decode cL_isBook 9 = .ok (.bipush 6, 2) := by decide +kernel
theorem dL_isBook_11 : decode cL_isBook 11 = .ok (.iload_n 2, 1) := by decide +kernel
theorem dL_isBook_12 : decode cL_isBook 12 = .ok (.imul, 1) := by decide +kernel
theorem dL_isBook_13 : decode cL_isBook 13 = .ok (.iconst 1, 1) := by decide +kernel
theorem dL_isBook_14 : decode cL_isBook 14 = .ok (.iadd, 1) := by decide +kernel
theorem dL_isBook_15 : decode cL_isBook 15 = .ok (.iaload, 1) := by decide +kernel
theorem dL_isBook_16 : decode cL_isBook 16 = .ok (.imul, 1) := by decide +kernel
theorem dL_isBook_17 : decode cL_isBook 17 = .ok (.istore 4, 2) := by decide +kernel
theorem dL_isBook_19 : decode cL_isBook 19 = .ok (.aload_n 0, 1) := by decide +kernel
theorem dL_isBook_20 : decode cL_isBook 20 = .ok (.iload_n 2, 1) := by decide +kernel
theorem dL_isBook_21 : decode cL_isBook 21 = .ok (.invokestatic 151, 3) := by decide +kernel
theorem dL_isBook_24 : decode cL_isBook 24 = .ok (.istore 5, 2) := by decide +kernel
theorem dL_isBook_26 : decode cL_isBook 26 = .ok (.iconst 1, 1) := by decide +kernel
theorem dL_isBook_27 : decode cL_isBook 27 = .ok (.istore 6, 2) := by decide +kernel
theorem dL_isBook_29 : decode cL_isBook 29 = .ok (.iconst 0, 1) := by decide +kernel
theorem dL_isBook_30 : decode cL_isBook 30 = .ok (.istore 7, 2) := by decide +kernel
theorem dL_isBook_32 : decode cL_isBook 32 = .ok (.aload_n 0, 1) := by decide +kernel
theorem dL_isBook_33 : decode cL_isBook 33 = .ok (.iload_n 2, 1) := by decide +kernel
theorem dL_isBook_34 : decode cL_isBook 34 = .ok (.bipush 6, 2) := by decide +kernel
theorem dL_isBook_36 : decode cL_isBook 36 = .ok (.invokestatic 149, 3) := by decide +kernel
theorem dL_isBook_39 : decode cL_isBook 39 = .ok (.ldc 21, 2) := by decide +kernel
theorem dL_isBook_41 : decode cL_isBook 41 = .ok (.if_icmp .ne 25, 3) := by decide +kernel
theorem dL_isBook_44 : decode cL_isBook 44 = .ok (.aload_n 0, 1) := by decide +kernel
theorem dL_isBook_45 : decode cL_isBook 45 = .ok (.iload_n 2, 1) := by decide +kernel
theorem dL_isBook_46 : decode cL_isBook 46 = .ok (.iload_n 3, 1) := by decide +kernel
theorem dL_isBook_47 : decode cL_isBook 47 = .ok (.invokestatic 158, 3) := by decide +kernel
theorem dL_isBook_50 : decode cL_isBook 50 = .ok (.ldc 18, 2) := by decide +kernel
theorem dL_isBook_52 : decode cL_isBook 52 = .ok (.if_icmp .ne 14, 3) := by decide +kernel
theorem dL_isBook_55 : decode cL_isBook 55 = .ok (.iload 5, 2) := by decide +kernel
theorem dL_isBook_57 : decode cL_isBook 57 = .ok (.iconst 3, 1) := by decide +kernel
theorem dL_isBook_58 : decode cL_isBook 58 = .ok (.irem, 1) := by decide +kernel
theorem dL_isBook_59 : decode cL_isBook 59 = .ok (.ifCond .ne 7, 3) := by decide +kernel
theorem dL_isBook_62 : decode cL_isBook 62 = .ok (.iconst 1, 1) := by decide +kernel
theorem dL_isBook_63 : decode cL_isBook 63 = .ok (.goto 4, 3) := by decide +kernel
