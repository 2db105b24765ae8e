theorem dX7_finishFirst_269 : decode cX7_finishFirst 269 = .ok (.aload_n 0, 1) := by decide +kernel
theorem dX7_finishFirst_270 : decode cX7_finishFirst 270 = .ok (.getfield 50, 3) := by decide +kernel
theorem dX7_finishFirst_273 : decode cX7_finishFirst 273 = .ok (.iload_n 1, 1) := by decide +kernel
theorem dX7_finishFirst_274 : decode cX7_finishFirst 274 = .ok (.bipush 8, 2) := by decide +kernel
theorem dX7_finishFirst_276 : decode cX7_finishFirst 276 = .ok (.irem, 1) := by decide +kernel
theorem dX7_finishFirst_277 : decode cX7_finishFirst 277 = .ok (.iload 5, 2) := by decide +kernel
theorem dX7_finishFirst_279 : decode cX7_finishFirst 279 = .ok (.iastore, 1) := by decide +kernel
theorem dX7_finishFirst_280 : decode cX7_finishFirst 280 = .ok (.iload 5, 2) := by decide +kernel
theorem dX7_finishFirst_282 : decode cX7_finishFirst 282 = .ok (.iload 6, 2) := by decide +kernel
theorem dX7_finishFirst_284 : decode cX7_finishFirst 284 = .ok (.if_icmp .eq 181, 3) := by decide +kernel
theorem dX7_finishFirst_287 : decode cX7_finishFirst 287 = .ok (.aload_n 0, 1) := by decide +kernel
theorem dX7_finishFirst_288 : decode cX7_finishFirst 288 = .ok (.getfield 77, 3) := by decide +kernel
theorem dX7_finishFirst_291 : decode cX7_finishFirst 291 = .ok (.iconst 2, 1) := by decide +kernel
theorem dX7_finishFirst_292 : decode cX7_finishFirst 292 = .ok (.dup2, 1) := by decide +kernel
theorem dX7_finishFirst_293 : decode cX7_finishFirst 293 = .ok (.iaload, 1) := by decide +kernel
theorem dX7_finishFirst_294 : decode cX7_finishFirst 294 = .ok (.iconst 1, 1) := by decide +kernel
theorem dX7_finishFirst_295 : decode cX7_finishFirst 295 = .ok (.iadd, 1) := by decide +kernel
theorem dX7_finishFirst_296 : decode cX7_finishFirst 296 = .ok (.iastore, 1) := by decide +kernel
theorem dX7_finishFirst_297 : decode cX7_finishFirst 297 = .ok (.aload_n 0, 1) := by decide +kernel
theorem dX7_finishFirst_298 : decode cX7_finishFirst 298 = .ok (.getfield 77, 3) := by decide +kernel
theorem dX7_finishFirst_301 : decode cX7_finishFirst 301 = .ok (.bipush 14, 2) := by decide +kernel
theorem dX7_finishFirst_303 : decode cX7_finishFirst 303 = .ok (.dup2, 1) := by decide +kernel
theorem dX7_finishFirst_304 : decode cX7_finishFirst 304 = .ok (.iaload, 1) := by decide +kernel
theorem dX7_finishFirst_305 : decode cX7_finishFirst 305 = .ok (.iconst 1, 1) := by decide +kernel
theorem dX7_finishFirst_306 : decode cX7_finishFirst 306 = .ok (.iadd, 1) := by decide +kernel
theorem dX7_finishFirst_307 : decode cX7_finishFirst 307 = .ok (.iastore, 1) := by decide +kernel
theorem dX7_finishFirst_308 : decode cX7_finishFirst 308 = .ok (.aload_n 0, 1) := by decide +kernel
theorem dX7_finishFirst_309 : decode cX7_finishFirst 309 = .ok (.getfield 77, 3) := by decide +kernel
theorem dX7_finishFirst_312 : decode cX7_finishFirst 312 = .ok (.bipush 6, 2) := by decide +kernel
theorem dX7_finishFirst_314 : decode cX7_finishFirst 314 = .ok (.dup2, 1) := by decide +kernel
theorem dX7_finishFirst_315 : decode cX7_finishFirst 315 = .ok (.iaload, 1) := by decide +kernel
theorem dX7_finishFirst_316 : decode cX7_finishFirst 316 = .ok (.iload_n 3, 1) := by decide +kernel
theorem dX7_finishFirst_317 : decode cX7_finishFirst 317 = .ok (.ifCond .eq 7, 3) := by decide +kernel
theorem dX7_finishFirst_320 : decode cX7_finishFirst 320 = .ok (.iconst 1, 1) := by decide +kernel
theorem dX7_finishFirst_321 : decode cX7_finishFirst 321 = .ok (.goto 4, 3) := by decide +kernel
theorem dX7_finishFirst_324 : decode cX7_finishFirst 324 = .ok (.iconst 0, 1) := by decide +kernel
theorem dX7_finishFirst_325 : decode cX7_finishFirst 325 = .ok (.iadd, 1) := by decide +kernel
theorem dX7_finishFirst_326 : decode cX7_finishFirst 326 = .ok (.iastore, 1) := by decide +kernel
theorem dX7_finishFirst_327 : decode cX7_finishFirst 327 = .ok (.aload_n 0, 1) := by decide +kernel
theorem dX7_finishFirst_328 : decode cX7_finishFirst 328 = .ok (.getfield 77, 3) := by decide +kernel
theorem dX7_finishFirst_331 : decode cX7_finishFirst 331 = .ok (.bipush 7, 2) := by decide +kernel
theorem dX7_finishFirst_333 : decode cX7_finishFirst 333 = .ok (.dup2, 1) := by decide +kernel
theorem dX7_finishFirst_334 : decode cX7_finishFirst 334 = .ok (.iaload, 1) := by decide +kernel
theorem dX7_finishFirst_335 : decode cX7_finishFirst 335 = .ok (.iload_n 2, 1) := by decide +kernel
theorem dX7_finishFirst_336 : decode cX7_finishFirst 336 = .ok (.bipush 9, 2) := by decide +kernel
theorem dX7_finishFirst_338 : decode cX7_finishFirst 338 = .ok (.if_icmp .ne 7, 3) := by decide +kernel
theorem dX7_finishFirst_341 : decode cX7_finishFirst 341 = .ok (.iconst 1, 1) := by decide +kernel
theorem dX7_finishFirst_342 : decode cX7_finishFirst 342 = .ok (.goto 4, 3) := by decide +kernel
theorem dX7_finishFirst_345 : decode cX7_finishFirst 345 = .ok (.iconst 0, 1) := by decide +kernel
theorem dX7_finishFirst_346 : decode cX7_finishFirst 346 = .ok (.iadd, 1) := by decide +kernel
theorem dX7_finishFirst_347 : decode cX7_finishFirst 347 = .ok (.iastore, 1) := by decide +kernel
theorem dX7_finishFirst_348 : decode cX7_finishFirst 348 = .ok (.aload_n 0, 1) := by decide +kernel
theorem dX7_finishFirst_349 : decode cX7_finishFirst 349 = .ok (.getfield 77, 3) := by decide +kernel
theorem dX7_finishFirst_352 : decode cX7_finishFirst 352 = .ok (.iconst 3, 1) := by decide +kernel
theorem dX7_finishFirst_353 : decode cX7_finishFirst 353 = .ok (.dup2, 1) := by decide +kernel
theorem dX7_finishFirst_354 : decode cX7_finishFirst 354 = .ok (.iaload, 1) := by decide +kernel
theorem dX7_finishFirst_355 : decode cX7_finishFirst 355 = .ok (.aload_n 0, 1) := by decide +kernel
theorem dX7_finishFirst_356 : decode cX7_finishFirst 356 = .ok (.getfield 117, 3) := by decide +kernel
theorem dX7_finishFirst_359 : decode cX7_finishFirst 359 = .ok (.iadd, 1) := by decide +kernel
theorem dX7_finishFirst_360 : decode cX7_finishFirst 360 = .ok (.iastore, 1) := by decide +kernel
theorem dX7_finishFirst_361 : decode cX7_finishFirst 361 = .ok (.aload_n 0, 1) := by decide +kernel
theorem dX7_finishFirst_362 : decode cX7_finishFirst 362 = .ok (.iconst 0, 1) := by decide +kernel
theorem dX7_finishFirst_363 : decode cX7_finishFirst 363 = .ok (.putfield 117, 3) := by decide +kernel
theorem dX7_finishFirst_366 : decode cX7_finishFirst 366 = .ok (.aload_n 0, 1) := by decide +kernel
theorem dX7_finishFirst_367 : decode cX7_finishFirst 367 = .ok (.iload 5, 2) := by decide +kernel
theorem dX7_finishFirst_369 : decode cX7_finishFirst 369 = .ok (.putfield 123, 3) := by decide +kernel
theorem dX7_finishFirst_372 : decode cX7_finishFirst 372 = .ok (.aload_n 0, 1) := by decide +kernel
theorem dX7_finishFirst_373 : decode cX7_finishFirst 373 = .ok (.iload 7, 2) := by decide +kernel
theorem dX7_finishFirst_375 : decode cX7_finishFirst 375 = .ok (.putfield 89, 3) := by decide +kernel
theorem dX7_finishFirst_378 : decode cX7_finishFirst 378 = .ok (.aload_n 0, 1) := by decide +kernel
theorem dX7_finishFirst_379 : decode cX7_finishFirst 379 = .ok (.iload 8, 2) := by decide +kernel
theorem dX7_finishFirst_381 : decode cX7_finishFirst 381 = .ok (.putfield 120, 3) := by decide +kernel
theorem dX7_finishFirst_384 : decode cX7_finishFirst 384 = .ok (.iconst 0, 1) := by decide +kernel
theorem dX7_finishFirst_385 : decode cX7_finishFirst 385 = .ok (.istore 9, 2) := by decide +kernel
theorem dX7_finishFirst_387 : decode cX7_finishFirst 387 = .ok (.iload 9, 2) := by decide +kernel
theorem dX7_finishFirst_389 : decode cX7_finishFirst 389 = .ok (.iconst 4, 1) := by decide +kernel
theorem dX7_finishFirst_390 : decode cX7_finishFirst 390 = .ok (.if_icmp .ge 23, 3) := by decide +kernel
theorem dX7_finishFirst_393 : decode cX7_finishFirst 393 = .ok (.aload_n 0, 1) := by decide +kernel
theorem dX7_finishFirst_394 : decode cX7_finishFirst 394 = .ok (.getfield 53, 3) := by decide +kernel
theorem dX7_finishFirst_397 : decode cX7_finishFirst 397 = .ok (.iload 9, 2) := by decide +kernel
theorem dX7_finishFirst_399 : decode cX7_finishFirst 399 = .ok (.aload_n 0, 1) := by decide +kernel
theorem dX7_finishFirst_400 : decode cX7_finishFirst 400 = .ok (.getfield 83, 3) := by decide +kernel
theorem dX7_finishFirst_403 : decode cX7_finishFirst 403 = .ok (.iload 9, 2) := by decide +kernel
theorem dX7_finishFirst_405 : decode cX7_finishFirst 405 = .ok (.iaload, 1) := by decide +kernel
theorem dX7_finishFirst_406 : decode cX7_finishFirst 406 = .ok (.iastore, 1) := by decide +kernel
theorem dX7_finishFirst_407 : decode cX7_finishFirst 407 = .ok (.iinc 9 1, 3) := by decide +kernel
theorem dX7_finishFirst_410 : decode cX7_finishFirst 410 = .ok (.goto (-23), 3) := by decide +kernel
theorem dX7_finishFirst_413 : decode cX7_finishFirst 413 = .ok (.iload_n 3, 1) := by decide +kernel
theorem dX7_finishFirst_414 : decode cX7_finishFirst 414 = .ok (.ifCond .eq 12, 3) := by decide +kernel
theorem dX7_finishFirst_417 : decode cX7_finishFirst 417 = .ok (.aload_n 0, 1) := by decide +kernel
theorem dX7_finishFirst_418 : decode cX7_finishFirst 418 = .ok (.iload 4, 2) := by decide +kernel
theorem dX7_finishFirst_420 : decode cX7_finishFirst 420 = .ok (.invokevirtual 134, 3) := by decide +kernel
theorem dX7_finishFirst_423 : decode cX7_finishFirst 423 = .ok (.goto 42, 3) := by decide +kernel
theorem dX7_finishFirst_426 : decode cX7_finishFirst 426 = .ok (.iload_n 2, 1) := by decide +kernel
theorem dX7_finishFirst_427 : decode cX7_finishFirst 427 = .ok (.bipush 8, 2) := by decide +kernel
theorem dX7_finishFirst_429 : decode cX7_finishFirst 429 = .ok (.if_icmp .ne 13, 3) := by decide +kernel
theorem dX7_finishFirst_432 : decode cX7_finishFirst 432 = .ok (.aload_n 0, 1) := by decide +kernel
theorem dX7_finishFirst_433 : decode cX7_finishFirst 433 = .ok (.iload_n 1, 1) := by decide +kernel
theorem dX7_finishFirst_434 : decode cX7_finishFirst 434 = .ok (.iconst 1, 1) := by decide +kernel
theorem dX7_finishFirst_435 : decode cX7_finishFirst 435 = .ok (.iadd, 1) := by decide +kernel
theorem dX7_finishFirst_436 : decode cX7_finishFirst 436 = .ok (.invokevirtual 138, 3) := by decide +kernel
theorem dX7_finishFirst_439 : decode cX7_finishFirst 439 = .ok (.goto 26, 3) := by decide +kernel
theorem dX7_finishFirst_442 : decode cX7_finishFirst 442 = .ok (.iload_n 2, 1) := by decide +kernel
theorem dX7_finishFirst_443 : decode cX7_finishFirst 443 = .ok (.bipush 9, 2) := by decide +kernel
theorem dX7_finishFirst_445 : decode cX7_finishFirst 445 = .ok (.if_icmp .ne 20, 3) := by decide +kernel
theorem dX7_finishFirst_448 : decode cX7_finishFirst 448 = .ok (.aload_n 0, 1) := by decide +kernel
theorem dX7_finishFirst_449 : decode cX7_finishFirst 449 = .ok (.getfield 120, 3) := by decide +kernel
theorem dX7_finishFirst_452 : decode cX7_finishFirst 452 = .ok (.ifCond .le 13, 3) := by decide +kernel
theorem dX7_finishFirst_455 : decode cX7_finishFirst 455 = .ok (.aload_n 0, 1) := by decide +kernel
theorem dX7_finishFirst_456 : decode cX7_finishFirst 456 = .ok (.dup, 1) := by decide +kernel
theorem dX7_finishFirst_457 : decode cX7_finishFirst 457 = .ok (.getfield 120, 3) := by decide +kernel
theorem dX7_finishFirst_460 : decode cX7_finishFirst 460 = .ok (.iconst 1, 1) := by decide +kernel
theorem dX7_finishFirst_461 : decode cX7_finishFirst 461 = .ok (.isub, 1) := by decide +kernel
theorem dX7_finishFirst_462 : decode cX7_finishFirst 462 = .ok (.putfield 120, 3) := by decide +kernel
theorem dX7_finishFirst_465 : decode cX7_finishFirst 465 = .ok (.return_, 1) := by decide +kernel
set_option maxRecDepth 20000 in
theorem ggX7_cycle_X7_in : GoodIn wsX7_cycle wsX7_in := goodIn_r _ [11] (by decide +kernel) (by decide +kernel)
set_option maxRecDepth 20000 in
theorem gX7_cycle_X7_in : GoodIn wsX7_cycle (va_wsS RX7 92 yX7_in wsX7_in) := goodIn_app (goodIn_of _ (by decide +kernel)) ggX7_cycle_X7_in
set_option maxRecDepth 20000 in
theorem ggX7_cycle_X7_finish : GoodIn wsX7_cycle wsX7_finish := goodIn_r _ [15, 7, 16, 1, 2, 90, 91, 92, 93, 94, 95, 96, 97, 98, 99, 100, 101, 102, 103, 104, 105, 106, 107, 108, 109, 110, 111, 112, 113, 114, 115, 116, 117, 118, 119, 120, 121, 122, 123] (by decide +kernel) (by decide +kernel)
set_option maxRecDepth 20000 in
theorem gX7_cycle_X7_finish : GoodIn wsX7_cycle (wsV RX7 160 RX7 yX7_finish wsX7_finish) := goodIn_app (goodIn_of _ (by decide +kernel)) ggX7_cycle_X7_finish
set_option maxRecDepth 20000 in
theorem ggX7_cycle_X7_fetch : GoodIn wsX7_cycle wsX7_fetch := goodIn_r _ [80, 3, 4, 21, 2, 5, 24, 32, 25, 33, 27, 34, 23, 8, 9, 10, 11, 81, 82, 83, 84, 29, 1, 30, 31, 85, 86, 87, 88, 89, 59, 60, 61, 62, 63, 64, 65, 69, 70, 71, 72, 73, 74, 75, 76, 90, 91, 92, 93, 94, 95, 96, 97, 98, 99, 100, 101, 102, 103, 104, 105, 106, 107, 108, 109, 110, 111, 112, 113, 114, 115, 116, 117, 118, 119, 120, 121, 122, 123] (by decide +kernel) (by decide +kernel)
set_option maxRecDepth 20000 in
theorem gX7_cycle_X7_fetch : GoodIn wsX7_cycle (wsV RX7 170 RX7 yX7_fetch wsX7_fetch) := goodIn_app (goodIn_of _ (by decide +kernel)) ggX7_cycle_X7_fetch
theorem dX7_cycle_0 : decode cX7_cycle 0 = .ok (.aload_n 0, 1) := by decide +kernel
theorem dX7_cycle_1 : decode cX7_cycle 1 = .ok (.getfield 77, 3) := by decide +kernel
theorem dX7_cycle_4 : decode cX7_cycle 4 = .ok (.iconst 0, 1) := by decide +kernel
theorem dX7_cycle_5 : decode cX7_cycle 5 = .ok (.dup2, 1) := by decide +kernel
theorem dX7_cycle_6 : decode cX7_cycle 6 = .ok (.iaload, 1) := by decide +kernel
theorem dX7_cycle_7 : decode cX7_cycle 7 = .ok (.iconst 1, 1) := by decide +kernel
theorem dX7_cycle_8 : decode cX7_cycle 8 = .ok (.iadd, 1) := by decide +kernel
theorem dX7_cycle_9 : decode cX7_cycle 9 = .ok (.iastore, 1) := by decide +kernel
theorem dX7_cycle_10 : decode cX7_cycle 10 = .ok (.aload_n 0, 1) := by decide +kernel
theorem dX7_cycle_11 : decode cX7_cycle 11 = .ok (.getfield 117, 3) := by decide +kernel
theorem dX7_cycle_14 : decode cX7_cycle 14 = .ok (.ifCond .ne 26, 3) := by decide +kernel
theorem dX7_cycle_17 : decode cX7_cycle 17 = .ok (.aload_n 0, 1) := by decide +kernel
theorem dX7_cycle_18 : decode cX7_cycle 18 = .ok (.getfield 123, 3) := by decide +kernel
theorem dX7_cycle_21 : decode cX7_cycle 21 = .ok (.iconst 0, 1) := by decide +kernel
theorem dX7_cycle_22 : decode cX7_cycle 22 = .ok (.aload_n 0, 1) := by decide +kernel
theorem dX7_cycle_23 : decode cX7_cycle 23 = .ok (.getfield 100, 3) := by decide +kernel
theorem dX7_cycle_26 : decode cX7_cycle 26 = .ok (.iconst 1, 1) := by decide +kernel
theorem dX7_cycle_27 : decode cX7_cycle 27 = .ok (.isub, 1) := by decide +kernel
theorem dX7_cycle_28 : decode cX7_cycle 28 = .ok (.invokestatic 92, 3) := by decide +kernel
theorem dX7_cycle_31 : decode cX7_cycle 31 = .ok (.ifCond .ne 9, 3) := by decide +kernel
theorem dX7_cycle_34 : decode cX7_cycle 34 = .ok (.aload_n 0, 1) := by decide +kernel
theorem dX7_cycle_35 : decode cX7_cycle 35 = .ok (.iconst 2, 1) := by decide +kernel
theorem dX7_cycle_36 : decode cX7_cycle 36 = .ok (.invokevirtual 160, 3) := by decide +kernel
theorem dX7_cycle_39 : decode cX7_cycle 39 = .ok (.return_, 1) := by decide +kernel
theorem dX7_cycle_40 : decode cX7_cycle 40 = .ok (.aload_n 0, 1) := by decide +kernel
theorem dX7_cycle_41 : decode cX7_cycle 41 = .ok (.getfield 117, 3) := by decide +kernel
theorem dX7_cycle_44 : decode cX7_cycle 44 = .ok (.ifCond .le 27, 3) := by decide +kernel
theorem dX7_cycle_47 : decode cX7_cycle 47 = .ok (.aload_n 0, 1) := by decide +kernel
theorem dX7_cycle_48 : decode cX7_cycle 48 = .ok (.getfield 59, 3) := by decide +kernel
theorem dX7_cycle_51 : decode cX7_cycle 51 = .ok (.iconst 0, 1) := by decide +kernel
theorem dX7_cycle_52 : decode cX7_cycle 52 = .ok (.iaload, 1) := by decide +kernel
theorem dX7_cycle_53 : decode cX7_cycle 53 = .ok (.aload_n 0, 1) := by decide +kernel
theorem dX7_cycle_54 : decode cX7_cycle 54 = .ok (.getfield 31, 3) := by decide +kernel
theorem dX7_cycle_57 : decode cX7_cycle 57 = .ok (.iadd, 1) := by decide +kernel
theorem dX7_cycle_58 : decode cX7_cycle 58 = .ok (.aload_n 0, 1) := by decide +kernel
theorem dX7_cycle_59 : decode cX7_cycle 59 = .ok (.getfield 77, 3) := by decide +kernel
theorem dX7_cycle_62 : decode cX7_cycle 62 = .ok (.iconst 0, 1) := by decide +kernel
theorem dX7_cycle_63 : decode cX7_cycle 63 = .ok (.iaload, 1) := by decide +kernel
theorem dX7_cycle_64 : decode cX7_cycle 64 = .ok (.if_icmp .ne 7, 3) := by decide +kernel
theorem dX7_cycle_67 : decode cX7_cycle 67 = .ok (.aload_n 0, 1) := by decide +kernel
theorem dX7_cycle_68 : decode cX7_cycle 68 = .ok (.invokevirtual 167, 3) := by decide +kernel
theorem dX7_cycle_71 : decode cX7_cycle 71 = .ok (.aload_n 0, 1) := by decide +kernel
theorem dX7_cycle_72 : decode cX7_cycle 72 = .ok (.getfield 96, 3) := by decide +kernel
theorem dX7_cycle_75 : decode cX7_cycle 75 = .ok (.ifCond .eq 13, 3) := by decide +kernel
theorem dX7_cycle_78 : decode cX7_cycle 78 = .ok (.aload_n 0, 1) := by decide +kernel
theorem dX7_cycle_79 : decode cX7_cycle 79 = .ok (.aload_n 0, 1) := by decide +kernel
theorem dX7_cycle_80 : decode cX7_cycle 80 = .ok (.getfield 77, 3) := by decide +kernel
theorem dX7_cycle_83 : decode cX7_cycle 83 = .ok (.iconst 0, 1) := by decide +kernel
theorem dX7_cycle_84 : decode cX7_cycle 84 = .ok (.iaload, 1) := by decide +kernel
theorem dX7_cycle_85 : decode cX7_cycle 85 = .ok (.invokevirtual 170, 3) := by decide +kernel
theorem dX7_cycle_88 : decode cX7_cycle 88 = .ok (.return_, 1) := by decide +kernel
set_option maxRecDepth 20000 in
theorem ggX7_run_X7_in : GoodIn wsX7_run wsX7_in := goodIn_r _ [6] (by decide +kernel) (by decide +kernel)
set_option maxRecDepth 20000 in
theorem gX7_run_X7_in : GoodIn wsX7_run (va_wsS RX7 92 yX7_in wsX7_in) := goodIn_app (goodIn_of _ (by decide +kernel)) ggX7_run_X7_in
theorem dX7_run_0 : decode cX7_run 0 = .ok (.iload_n 1, 1) := by decide +kernel
theorem dX7_run_1 : decode cX7_run 1 = .ok (.iconst 1, 1) := by decide +kernel
theorem dX7_run_2 : decode cX7_run 2 = .ok (.sipush 5000, 3) := by decide +kernel
theorem dX7_run_5 : decode cX7_run 5 = .ok (.invokestatic 92, 3) := by decide +kernel
theorem dX7_run_8 : decode cX7_run 8 = .ok (.ifCond .ne 6, 3) := by decide +kernel
theorem dX7_run_11 : decode cX7_run 11 = .ok (.bipush (-102), 2) := by decide +kernel
theorem dX7_run_13 : decode cX7_run 13 = .ok (.ireturn, 1) := by decide +kernel
theorem dX7_run_14 : decode cX7_run 14 = .ok (.aload_n 0, 1) := by decide +kernel
theorem dX7_run_15 : decode cX7_run 15 = .ok (.getfield 96, 3) := by decide +kernel
theorem dX7_run_18 : decode cX7_run 18 = .ok (.ifCond .ne 6, 3) := by decide +kernel
theorem dX7_run_21 : decode cX7_run 21 = .ok (.bipush (-103), 2) := by decide +kernel
theorem dX7_run_23 : decode cX7_run 23 = .ok (.ireturn, 1) := by decide +kernel
theorem dX7_run_24 : decode cX7_run 24 = .ok (.aload_n 0, 1) := by decide +kernel
theorem dX7_run_25 : decode cX7_run 25 = .ok (.getfield 77, 3) := by decide +kernel
theorem dX7_run_28 : decode cX7_run 28 = .ok (.iconst 1, 1) := by decide +kernel
theorem dX7_run_29 : decode cX7_run 29 = .ok (.iaload, 1) := by decide +kernel
theorem dX7_run_30 : decode cX7_run 30 = .ok (.istore_n 2, 1) := by decide +kernel
theorem dX7_run_31 : decode cX7_run 31 = .ok (.iconst 0, 1) := by decide +kernel
theorem dX7_run_32 : decode cX7_run 32 = .ok (.istore_n 3, 1) := by decide +kernel
theorem dX7_run_33 : decode cX7_run 33 = .ok (.iload_n 3, 1) := by decide +kernel
theorem dX7_run_34 : decode cX7_run 34 = .ok (.iload_n 1, 1) := by decide +kernel
theorem dX7_run_35 : decode cX7_run 35 = .ok (.if_icmp .ge 20, 3) := by decide +kernel
theorem dX7_run_38 : decode cX7_run 38 = .ok (.aload_n 0, 1) := by decide +kernel
theorem dX7_run_39 : decode cX7_run 39 = .ok (.getfield 96, 3) := by decide +kernel
theorem dX7_run_42 : decode cX7_run 42 = .ok (.ifCond .eq 13, 3) := by decide +kernel
theorem dX7_run_45 : decode cX7_run 45 = .ok (.aload_n 0, 1) := by decide +kernel
theorem dX7_run_46 : decode cX7_run 46 = .ok (.invokevirtual 173, 3) := by decide +kernel
theorem dX7_run_49 : decode cX7_run 49 = .ok (.iinc 3 1, 3) := by decide +kernel
theorem dX7_run_52 : decode cX7_run 52 = .ok (.goto (-19), 3) := by decide +kernel
theorem dX7_run_55 : decode cX7_run 55 = .ok (.aload_n 0, 1) := by decide +kernel
theorem dX7_run_56 : decode cX7_run 56 = .ok (.getfield 77, 3) := by decide +kernel
theorem dX7_run_59 : decode cX7_run 59 = .ok (.iconst 1, 1) := by decide +kernel
theorem dX7_run_60 : decode cX7_run 60 = .ok (.iaload, 1) := by decide +kernel
theorem dX7_run_61 : decode cX7_run 61 = .ok (.iload_n 2, 1) := by decide +kernel
theorem dX7_run_62 : decode cX7_run 62 = .ok (.isub, 1) := by decide +kernel
theorem dX7_run_63 : decode cX7_run 63 = .ok (.ireturn, 1) := by decide +kernel
set_option maxRecDepth 20000 in
theorem ggX7_stop_X7_finish : GoodIn wsX7_stop wsX7_finish := goodIn_r _ [7, 1, 8, 2, 9, 10, 11, 12, 13, 14, 15, 16, 17, 18, 19, 20, 21, 22, 23, 24, 25, 26, 27, 28, 29, 30, 31, 32, 33, 34, 35, 36, 37, 38, 39, 40, 41, 42, 43] (by decide +kernel) (by decide +kernel)
set_option maxRecDepth 20000 in
theorem gX7_stop_X7_finish : GoodIn wsX7_stop (wsV RX7 160 RX7 yX7_finish wsX7_finish) := goodIn_app (goodIn_of _ (by decide +kernel)) ggX7_stop_X7_finish
theorem dX7_stop_0 : decode cX7_stop 0 = .ok (.aload_n 0, 1) := by decide +kernel
theorem dX7_stop_1 : decode cX7_stop 1 = .ok (.getfield 96, 3) := by decide +kernel
theorem dX7_stop_4 : decode cX7_stop 4 = .ok (.ifCond .ne 6, 3) := by decide +kernel
theorem dX7_stop_7 : decode cX7_stop 7 = .ok (.bipush (-103), 2) := by decide +kernel
theorem dX7_stop_9 : decode cX7_stop 9 = .ok (.ireturn, 1) := by decide +kernel
theorem dX7_stop_10 : decode cX7_stop 10 = .ok (.aload_n 0, 1) := by decide +kernel
theorem dX7_stop_11 : decode cX7_stop 11 = .ok (.iconst 3, 1) := by decide +kernel
theorem dX7_stop_12 : decode cX7_stop 12 = .ok (.invokevirtual 160, 3) := by decide +kernel
theorem dX7_stop_15 : decode cX7_stop 15 = .ok (.aload_n 0, 1) := by decide +kernel
theorem dX7_stop_16 : decode cX7_stop 16 = .ok (.getfield 77, 3) := by decide +kernel
theorem dX7_stop_19 : decode cX7_stop 19 = .ok (.iconst 1, 1) := by decide +kernel
theorem dX7_stop_20 : decode cX7_stop 20 = .ok (.iaload, 1) := by decide +kernel
theorem dX7_stop_21 : decode cX7_stop 21 = .ok (.ireturn, 1) := by decide +kernel
theorem dX7_ended_0 : decode cX7_ended 0 = .ok (.aload_n 0, 1) := by decide +kernel
theorem dX7_ended_1 : decode cX7_ended 1 = .ok (.getfield 74, 3) := by decide +kernel
theorem dX7_ended_4 : decode cX7_ended 4 = .ok (.ireturn, 1) := by decide +kernel
set_option maxRecDepth 20000 in
theorem ggX7_tableOf_X7_in : GoodIn wsX7_tableOf wsX7_in := goodIn_r _ [13] (by decide +kernel) (by decide +kernel)
set_option maxRecDepth 20000 in
theorem gX7_tableOf_X7_in : GoodIn wsX7_tableOf (va_wsS RX7 92 yX7_in wsX7_in) := goodIn_app (goodIn_of _ (by decide +kernel)) ggX7_tableOf_X7_in
theorem dX7_tableOf_0 : decode cX7_tableOf 0 = .ok (.iload_n 1, 1) := by decide +kernel
theorem dX7_tableOf_1 : decode cX7_tableOf 1 = .ok (.tableswitch 119 0 7 #[47, 54, 61, 68, 75, 82, 89, 94], 47) := by decide +kernel
theorem dX7_tableOf_48 : decode cX7_tableOf 48 = .ok (.aload_n 0, 1) := by decide +kernel
theorem dX7_tableOf_49 : decode cX7_tableOf 49 = .ok (.getfield 35, 3) := by decide +kernel
theorem dX7_tableOf_52 : decode cX7_tableOf 52 = .ok (.iload_n 2, 1) := by decide +kernel
theorem dX7_tableOf_53 : decode cX7_tableOf 53 = .ok (.iaload, 1) := by decide +kernel
theorem dX7_tableOf_54 : decode cX7_tableOf 54 = .ok (.ireturn, 1) := by decide +kernel
theorem dX7_tableOf_55 : decode cX7_tableOf 55 = .ok (.aload_n 0, 1) := by decide +kernel
theorem dX7_tableOf_56 : decode cX7_tableOf 56 = .ok (.getfield 38, 3) := by decide +kernel
theorem dX7_tableOf_59 : decode cX7_tableOf 59 = .ok (.iload_n 2, 1) := by decide +kernel
theorem dX7_tableOf_60 : decode cX7_tableOf 60 = .ok (.iaload, 1) := by decide +kernel
theorem dX7_tableOf_61 : decode cX7_tableOf 61 = .ok (.ireturn, 1) := by decide +kernel
theorem dX7_tableOf_62 : decode cX7_tableOf 62 = .ok (.aload_n 0, 1) := by decide +kernel
theorem dX7_tableOf_63 : decode cX7_tableOf 63 = .ok (.getfield 41, 3) := by decide +kernel
theorem dX7_tableOf_66 : decode cX7_tableOf 66 = .ok (.iload_n 2, 1) := by decide +kernel
theorem dX7_tableOf_67 : decode cX7_tableOf 67 = .ok (.iaload, 1) := by decide +kernel
theorem dX7_tableOf_68 : decode cX7_tableOf 68 = .ok (.ireturn, 1) := by decide +kernel
theorem dX7_tableOf_69 : decode cX7_tableOf 69 = .ok (.aload_n 0, 1) := by decide +kernel
theorem dX7_tableOf_70 : decode cX7_tableOf 70 = .ok (.getfield 44, 3) := by decide +kernel
theorem dX7_tableOf_73 : decode cX7_tableOf 73 = .ok (.iload_n 2, 1) := by decide +kernel
theorem dX7_tableOf_74 : decode cX7_tableOf 74 = .ok (.iaload, 1) := by decide +kernel
theorem dX7_tableOf_75 : decode cX7_tableOf 75 = .ok (.ireturn, 1) := by decide +kernel
theorem dX7_tableOf_76 : decode cX7_tableOf 76 = .ok (.aload_n 0, 1) := by decide +kernel
theorem dX7_tableOf_77 : decode cX7_tableOf 77 = .ok (.getfield 47, 3) := by decide +kernel
theorem dX7_tableOf_80 : decode cX7_tableOf 80 = .ok (.iload_n 2, 1) := by decide +kernel
theorem dX7_tableOf_81 : decode cX7_tableOf 81 = .ok (.iaload, 1) := by decide +kernel
theorem dX7_tableOf_82 : decode cX7_tableOf 82 = .ok (.ireturn, 1) := by decide +kernel
theorem dX7_tableOf_83 : decode cX7_tableOf 83 = .ok (.aload_n 0, 1) := by decide +kernel
theorem dX7_tableOf_84 : decode cX7_tableOf 84 = .ok (.getfield 50, 3) := by decide +kernel
theorem dX7_tableOf_87 : decode cX7_tableOf 87 = .ok (.iload_n 2, 1) := by decide +kernel
theorem dX7_tableOf_88 : decode cX7_tableOf 88 = .ok (.iaload, 1) := by decide +kernel
theorem dX7_tableOf_89 : decode cX7_tableOf 89 = .ok (.ireturn, 1) := by decide +kernel
theorem dX7_tableOf_90 : decode cX7_tableOf 90 = .ok (.aload_n 0, 1) := by decide +kernel
theorem dX7_tableOf_91 : decode cX7_tableOf 91 = .ok (.getfield 89, 3) := by decide +kernel
theorem dX7_tableOf_94 : decode cX7_tableOf 94 = .ok (.ireturn, 1) := by decide +kernel
theorem dX7_tableOf_95 : decode cX7_tableOf 95 = .ok (.iload_n 2, 1) := by decide +kernel
theorem dX7_tableOf_96 : decode cX7_tableOf 96 = .ok (.iconst 0, 1) := by decide +kernel
theorem dX7_tableOf_97 : decode cX7_tableOf 97 = .ok (.aload_n 0, 1) := by decide +kernel
theorem dX7_tableOf_98 : decode cX7_tableOf 98 = .ok (.getfield 120, 3) := by decide +kernel
theorem dX7_tableOf_101 : decode cX7_tableOf 101 = .ok (.iconst 1, 1) := by decide +kernel
theorem dX7_tableOf_102 : decode cX7_tableOf 102 = .ok (.isub, 1) := by decide +kernel
theorem dX7_tableOf_103 : decode cX7_tableOf 103 = .ok (.invokestatic 92, 3) := by decide +kernel
theorem dX7_tableOf_106 : decode cX7_tableOf 106 = .ok (.ifCond .eq 12, 3) := by decide +kernel
theorem dX7_tableOf_109 : decode cX7_tableOf 109 = .ok (.aload_n 0, 1) := by decide +kernel
theorem dX7_tableOf_110 : decode cX7_tableOf 110 = .ok (.getfield 53, 3) := by decide +kernel
theorem dX7_tableOf_113 : decode cX7_tableOf 113 = .ok (.iload_n 2, 1) := by decide +kernel
theorem dX7_tableOf_114 : decode cX7_tableOf 114 = .ok (.iaload, 1) := by decide +kernel
theorem dX7_tableOf_115 : decode cX7_tableOf 115 = .ok (.goto 4, 3) := by decide +kernel
theorem dX7_tableOf_118 : decode cX7_tableOf 118 = .ok (.iconst (-1), 1) := by decide +kernel
theorem dX7_tableOf_119 : decode cX7_tableOf 119 = .ok (.ireturn, 1) := by decide +kernel
theorem dX7_tableOf_120 : decode cX7_tableOf 120 = .ok (.aload_n 0, 1) := by decide +kernel
theorem dX7_tableOf_121 : decode cX7_tableOf 121 = .ok (.getfield 120, 3) := by decide +kernel
theorem dX7_tableOf_124 : decode cX7_tableOf 124 = .ok (.ireturn, 1) := by decide +kernel
set_option maxRecDepth 20000 in
theorem ggX7_isPlace_X7_in : GoodIn wsX7_isPlace wsX7_in := goodIn_r _ [4] (by decide +kernel) (by decide +kernel)
set_option maxRecDepth 20000 in
theorem gX7_isPlace_X7_in : GoodIn wsX7_isPlace (va_wsS RX7 92 yX7_in wsX7_in) := goodIn_app (goodIn_of _ (by decide +kernel)) ggX7_isPlace_X7_in
theorem dX7_isPlace_0 : decode cX7_isPlace 0 = .ok (.iload_n 1, 1) := by decide +kernel
theorem dX7_isPlace_1 : decode cX7_isPlace 1 = .ok (.iconst 3, 1) := by decide +kernel
theorem dX7_isPlace_2 : decode cX7_isPlace 2 = .ok (.if_icmp .ge 13, 3) := by decide +kernel
theorem dX7_isPlace_5 : decode cX7_isPlace 5 = .ok (.iload_n 2, 1) := by decide +kernel
theorem dX7_isPlace_6 : decode cX7_isPlace 6 = .ok (.iconst 0, 1) := by decide +kernel
theorem dX7_isPlace_7 : decode cX7_isPlace 7 = .ok (.bipush 15, 2) := by decide +kernel
theorem dX7_isPlace_9 : decode cX7_isPlace 9 = .ok (.invokestatic 92, 3) := by decide +kernel
theorem dX7_isPlace_12 : decode cX7_isPlace 12 = .ok (.goto 39, 3) := by decide +kernel
theorem dX7_isPlace_15 : decode cX7_isPlace 15 = .ok (.iload_n 1, 1) := by decide +kernel
theorem dX7_isPlace_16 : decode cX7_isPlace 16 = .ok (.bipush 6, 2) := by decide +kernel
theorem dX7_isPlace_18 : decode cX7_isPlace 18 = .ok (.if_icmp .ge 13, 3) := by decide +kernel
theorem dX7_isPlace_21 : decode cX7_isPlace 21 = .ok (.iload_n 2, 1) := by decide +kernel
theorem dX7_isPlace_22 : decode cX7_isPlace 22 = .ok (.iconst 0, 1) := by decide +kernel
theorem dX7_isPlace_23 : decode cX7_isPlace 23 = .ok (.bipush 7, 2) := by decide +kernel
theorem dX7_isPlace_25 : decode cX7_isPlace 25 = .ok (.invokestatic 92, 3) := by decide +kernel
theorem dX7_isPlace_28 : decode cX7_isPlace 28 = .ok (.goto 23, 3) := by decide +kernel
theorem dX7_isPlace_31 : decode cX7_isPlace 31 = .ok (.iload_n 1, 1) := by decide +kernel
theorem dX7_isPlace_32 : decode cX7_isPlace 32 = .ok (.bipush 7, 2) := by decide +kernel
theorem dX7_isPlace_34 : decode cX7_isPlace 34 = .ok (.if_icmp .ne 12, 3) := by decide +kernel
theorem dX7_isPlace_37 : decode cX7_isPlace 37 = .ok (.iload_n 2, 1) := by decide +kernel
theorem dX7_isPlace_38 : decode cX7_isPlace 38 = .ok (.iconst 0, 1) := by decide +kernel
theorem dX7_isPlace_39 : decode cX7_isPlace 39 = .ok (.iconst 3, 1) := by decide +kernel
theorem dX7_isPlace_40 : decode cX7_isPlace 40 = .ok (.invokestatic 92, 3) := by decide +kernel
theorem dX7_isPlace_43 : decode cX7_isPlace 43 = .ok (.ifCond .eq 7, 3) := by decide +kernel
theorem dX7_isPlace_46 : decode cX7_isPlace 46 = .ok (.iconst 1, 1) := by decide +kernel
theorem dX7_isPlace_47 : decode cX7_isPlace 47 = .ok (.goto 4, 3) := by decide +kernel
theorem dX7_isPlace_50 : decode cX7_isPlace 50 = .ok (.iconst 0, 1) := by decide +kernel
theorem dX7_isPlace_51 : decode cX7_isPlace 51 = .ok (.ireturn, 1) := by decide +kernel
set_option maxRecDepth 20000 in
theorem ggX7_harm_X7_in : GoodIn wsX7_harm wsX7_in := goodIn_r _ [13] (by decide +kernel) (by decide +kernel)
set_option maxRecDepth 20000 in
theorem gX7_harm_X7_in : GoodIn wsX7_harm (va_wsS RX7 92 yX7_in wsX7_in) := goodIn_app (goodIn_of _ (by decide +kernel)) ggX7_harm_X7_in
set_option maxRecDepth 20000 in
theorem ggX7_harm_X7_isPlace : GoodIn wsX7_harm wsX7_isPlace := goodIn_r _ [17, 10, 11, 12, 13] (by decide +kernel) (by decide +kernel)
set_option maxRecDepth 20000 in
theorem gX7_harm_X7_isPlace : GoodIn wsX7_harm (wsV RX7 176 RX7 yX7_isPlace wsX7_isPlace) := goodIn_app (goodIn_of _ (by decide +kernel)) ggX7_harm_X7_isPlace
set_option maxRecDepth 20000 in
theorem ggX7_harm_X7_tableOf : GoodIn wsX7_harm wsX7_tableOf := goodIn_r _ [21, 2, 3, 4, 5, 6, 7, 8, 1, 9, 10, 11, 12, 13, 22, 23, 24, 25, 26, 27, 28, 29, 30, 31, 32, 33, 34, 35, 36, 37, 38, 39, 40, 41, 42, 43, 44, 45, 46, 47, 48, 49, 50, 51, 52, 53, 54, 55] (by decide +kernel) (by decide +kernel)
set_option maxRecDepth 20000 in
theorem gX7_harm_X7_tableOf : GoodIn wsX7_harm (wsV RX7 180 RX7 yX7_tableOf wsX7_tableOf) := goodIn_app (goodIn_of _ (by decide +kernel)) ggX7_harm_X7_tableOf
theorem dX7_harm_0 : decode cX7_harm 0 = .ok (.iload_n 1, 1) := by decide +kernel
theorem dX7_harm_1 : decode cX7_harm 1 = .ok (.iconst 0, 1) := by decide +kernel
theorem dX7_harm_2 : decode cX7_harm 2 = .ok (.bipush 7, 2) := by decide +kernel
theorem dX7_harm_4 : decode cX7_harm 4 = .ok (.invokestatic 92, 3) := by decide +kernel
theorem dX7_harm_7 : decode cX7_harm 7 = .ok (.ifCond .ne 6, 3) := by decide +kernel
theorem dX7_harm_10 : decode cX7_harm 10 = .ok (.bipush (-102), 2) := by decide +kernel
theorem dX7_harm_12 : decode cX7_harm 12 = .ok (.ireturn, 1) := by decide +kernel
theorem dX7_harm_13 : decode cX7_harm 13 = .ok (.aload_n 0, 1) := by decide +kernel
theorem dX7_harm_14 : decode cX7_harm 14 = .ok (.iload_n 1, 1) := by decide +kernel
theorem dX7_harm_15 : decode cX7_harm 15 = .ok (.iload_n 2, 1) := by decide +kernel
theorem dX7_harm_16 : decode cX7_harm 16 = .ok (.invokevirtual 176, 3) := by decide +kernel
theorem dX7_harm_19 : decode cX7_harm 19 = .ok (.ifCond .eq 23, 3) := by decide +kernel
theorem dX7_harm_22 : decode cX7_harm 22 = .ok (.iload_n 1, 1) := by decide +kernel
theorem dX7_harm_23 : decode cX7_harm 23 = .ok (.bipush 7, 2) := by decide +kernel
theorem dX7_harm_25 : decode cX7_harm 25 = .ok (.if_icmp .ne 20, 3) := by decide +kernel
theorem dX7_harm_28 : decode cX7_harm 28 = .ok (.iload_n 2, 1) := by decide +kernel
theorem dX7_harm_29 : decode cX7_harm 29 = .ok (.iconst 0, 1) := by decide +kernel
theorem dX7_harm_30 : decode cX7_harm 30 = .ok (.aload_n 0, 1) := by decide +kernel
theorem dX7_harm_31 : decode cX7_harm 31 = .ok (.getfield 120, 3) := by decide +kernel
theorem dX7_harm_34 : decode cX7_harm 34 = .ok (.iconst 1, 1) := by decide +kernel
theorem dX7_harm_35 : decode cX7_harm 35 = .ok (.isub, 1) := by decide +kernel
theorem dX7_harm_36 : decode cX7_harm 36 = .ok (.invokestatic 92, 3) := by decide +kernel
theorem dX7_harm_39 : decode cX7_harm 39 = .ok (.ifCond .ne 6, 3) := by decide +kernel
theorem dX7_harm_42 : decode cX7_harm 42 = .ok (.bipush (-101), 2) := by decide +kernel
theorem dX7_harm_44 : decode cX7_harm 44 = .ok (.ireturn, 1) := by decide +kernel
theorem dX7_harm_45 : decode cX7_harm 45 = .ok (.iload_n 1, 1) := by decide +kernel
theorem dX7_harm_46 : decode cX7_harm 46 = .ok (.iconst 3, 1) := by decide +kernel
theorem dX7_harm_47 : decode cX7_harm 47 = .ok (.if_icmp .ge 12, 3) := by decide +kernel
theorem dX7_harm_50 : decode cX7_harm 50 = .ok (.iload_n 3, 1) := by decide +kernel
theorem dX7_harm_51 : decode cX7_harm 51 = .ok (.iconst 0, 1) := by decide +kernel
theorem dX7_harm_52 : decode cX7_harm 52 = .ok (.iconst 3, 1) := by decide +kernel
theorem dX7_harm_53 : decode cX7_harm 53 = .ok (.invokestatic 92, 3) := by decide +kernel
theorem dX7_harm_56 : decode cX7_harm 56 = .ok (.goto 58, 3) := by decide +kernel
theorem dX7_harm_59 : decode cX7_harm 59 = .ok (.iload_n 1, 1) := by decide +kernel
theorem dX7_harm_60 : decode cX7_harm 60 = .ok (.iconst 3, 1) := by decide +kernel
theorem dX7_harm_61 : decode cX7_harm 61 = .ok (.if_icmp .ne 14, 3) := by decide +kernel
theorem dX7_harm_64 : decode cX7_harm 64 = .ok (.iload_n 3, 1) := by decide +kernel
theorem dX7_harm_65 : decode cX7_harm 65 = .ok (.iconst (-1), 1) := by decide +kernel
theorem dX7_harm_66 : decode cX7_harm 66 = .ok (.sipush 200, 3) := by decide +kernel
theorem dX7_harm_69 : decode cX7_harm 69 = .ok (.invokestatic 92, 3) := by decide +kernel
theorem dX7_harm_72 : decode cX7_harm 72 = .ok (.goto 42, 3) := by decide +kernel
theorem dX7_harm_75 : decode cX7_harm 75 = .ok (.iload_n 1, 1) := by decide +kernel
theorem dX7_harm_76 : decode cX7_harm 76 = .ok (.iconst 4, 1) := by decide +kernel
theorem dX7_harm_77 : decode cX7_harm 77 = .ok (.if_icmp .ne 13, 3) := by decide +kernel
theorem dX7_harm_80 : decode cX7_harm 80 = .ok (.iload_n 3, 1) := by decide +kernel
theorem dX7_harm_81 : decode cX7_harm 81 = .ok (.iconst 5, 1) := by decide +kernel
theorem dX7_harm_82 : decode cX7_harm 82 = .ok (.bipush 10, 2) := by decide +kernel
theorem dX7_harm_84 : decode cX7_harm 84 = .ok (.invokestatic 92, 3) := by decide +kernel
theorem dX7_harm_87 : decode cX7_harm 87 = .ok (.goto 27, 3) := by decide +kernel
theorem dX7_harm_90 : decode cX7_harm 90 = .ok (.iload_n 1, 1) := by decide +kernel
theorem dX7_harm_91 : decode cX7_harm 91 = .ok (.bipush 6, 2) := by decide +kernel
theorem dX7_harm_93 : decode cX7_harm 93 = .ok (.if_icmp .ne 13, 3) := by decide +kernel
theorem dX7_harm_96 : decode cX7_harm 96 = .ok (.iload_n 3, 1) := by decide +kernel
theorem dX7_harm_97 : decode cX7_harm 97 = .ok (.iconst 0, 1) := by decide +kernel
theorem dX7_harm_98 : decode cX7_harm 98 = .ok (.bipush 15, 2) := by decide +kernel
theorem dX7_harm_100 : decode cX7_harm 100 = .ok (.invokestatic 92, 3) := by decide +kernel
theorem dX7_harm_103 : decode cX7_harm 103 = .ok (.goto 11, 3) := by decide +kernel
theorem dX7_harm_106 : decode cX7_harm 106 = .ok (.iload_n 3, 1) := by decide +kernel
theorem dX7_harm_107 : decode cX7_harm 107 = .ok (.iconst 0, 1) := by decide +kernel
theorem dX7_harm_108 : decode cX7_harm 108 = .ok (.sipush 200, 3) := by decide +kernel
theorem dX7_harm_111 : decode cX7_harm 111 = .ok (.invokestatic 92, 3) := by decide +kernel
theorem dX7_harm_114 : decode cX7_harm 114 = .ok (.istore 4, 2) := by decide +kernel
theorem dX7_harm_116 : decode cX7_harm 116 = .ok (.iload 4, 2) := by decide +kernel
theorem dX7_harm_118 : decode cX7_harm 118 = .ok (.ifCond .ne 6, 3) := by decide +kernel
theorem dX7_harm_121 : decode cX7_harm 121 = .ok (.bipush (-102), 2) := by decide +kernel
theorem dX7_harm_123 : decode cX7_harm 123 = .ok (.ireturn, 1) := by decide +kernel
theorem dX7_harm_124 : decode cX7_harm 124 = .ok (.aload_n 0, 1) := by decide +kernel
theorem dX7_harm_125 : decode cX7_harm 125 = .ok (.iload_n 1, 1) := by decide +kernel
theorem dX7_harm_126 : decode cX7_harm 126 = .ok (.iload_n 2, 1) := by decide +kernel
theorem dX7_harm_127 : decode cX7_harm 127 = .ok (.invokevirtual 180, 3) := by decide +kernel
theorem dX7_harm_130 : decode cX7_harm 130 = .ok (.istore 5, 2) := by decide +kernel
theorem dX7_harm_132 : decode cX7_harm 132 = .ok (.iload_n 1, 1) := by decide +kernel
theorem dX7_harm_133 : decode cX7_harm 133 = .ok (.tableswitch 111 0 6 #[43, 53, 63, 73, 83, 93, 103], 43) := by decide +kernel
theorem dX7_harm_176 : decode cX7_harm 176 = .ok (.aload_n 0, 1) := by decide +kernel
theorem dX7_harm_177 : decode cX7_harm 177 = .ok (.getfield 35, 3) := by decide +kernel
theorem dX7_harm_180 : decode cX7_harm 180 = .ok (.iload_n 2, 1) := by decide +kernel
theorem dX7_harm_181 : decode cX7_harm 181 = .ok (.iload_n 3, 1) := by decide +kernel
theorem dX7_harm_182 : decode cX7_harm 182 = .ok (.iastore, 1) := by decide +kernel
theorem dX7_harm_183 : decode cX7_harm 183 = .ok (.goto 68, 3) := by decide +kernel
theorem dX7_harm_186 : decode cX7_harm 186 = .ok (.aload_n 0, 1) := by decide +kernel
theorem dX7_harm_187 : decode cX7_harm 187 = .ok (.getfield 38, 3) := by decide +kernel
theorem dX7_harm_190 : decode cX7_harm 190 = .ok (.iload_n 2, 1) := by decide +kernel
theorem dX7_harm_191 : decode cX7_harm 191 = .ok (.iload_n 3, 1) := by decide +kernel
theorem dX7_harm_192 : decode cX7_harm 192 = .ok (.iastore, 1) := by decide +kernel
theorem dX7_harm_193 : decode cX7_harm 193 = .ok (.goto 58, 3) := by decide +kernel
theorem dX7_harm_196 : decode cX7_harm 196 = .ok (.aload_n 0, 1) := by decide +kernel
theorem dX7_harm_197 : decode cX7_harm 197 = .ok (.getfield 41, 3) := by decide +kernel
theorem dX7_harm_200 : decode cX7_harm 200 = .ok (.iload_n 2, 1) := by decide +kernel
theorem dX7_harm_201 : decode cX7_harm 201 = .ok (.iload_n 3, 1) := by decide +kernel
theorem dX7_harm_202 : decode cX7_harm 202 = .ok (.iastore, 1) := by decide +kernel
theorem dX7_harm_203 : decode cX7_harm 203 = .ok (.goto 48, 3) := by decide +kernel
theorem dX7_harm_206 : decode cX7_harm 206 = .ok (.aload_n 0, 1) := by decide +kernel
theorem dX7_harm_207 : decode cX7_harm 207 = .ok (.getfield 44, 3) := by decide +kernel
theorem dX7_harm_210 : decode cX7_harm 210 = .ok (.iload_n 2, 1) := by decide +kernel
theorem dX7_harm_211 : decode cX7_harm 211 = .ok (.iload_n 3, 1) := by decide +kernel
theorem dX7_harm_212 : decode cX7_harm 212 = .ok (.iastore, 1) := by decide +kernel
theorem dX7_harm_213 : decode cX7_harm 213 = .ok (.goto 38, 3) := by decide +kernel
theorem dX7_harm_216 : decode cX7_harm 216 = .ok (.aload_n 0, 1) := by decide +kernel
theorem dX7_harm_217 : decode cX7_harm 217 = .ok (.getfield 47, 3) := by decide +kernel
theorem dX7_harm_220 : decode cX7_harm 220 = .ok (.iload_n 2, 1) := by decide +kernel
theorem dX7_harm_221 : decode cX7_harm 221 = .ok (.iload_n 3, 1) := by decide +kernel
theorem dX7_harm_222 : decode cX7_harm 222 = .ok (.iastore, 1) := by decide +kernel
theorem dX7_harm_223 : decode cX7_harm 223 = .ok (.goto 28, 3) := by decide +kernel
theorem dX7_harm_226 : decode cX7_harm 226 = .ok (.aload_n 0, 1) := by decide +kernel
theorem dX7_harm_227 : decode cX7_harm 227 = .ok (.getfield 50, 3) := by decide +kernel
theorem dX7_harm_230 : decode cX7_harm 230 = .ok (.iload_n 2, 1) := by decide +kernel
theorem dX7_harm_231 : decode cX7_harm 231 = .ok (.iload_n 3, 1) := by decide +kernel
theorem dX7_harm_232 : decode cX7_harm 232 = .ok (.iastore, 1) := by decide +kernel
theorem dX7_harm_233 : decode cX7_harm 233 = .ok (.goto 18, 3) := by decide +kernel
theorem dX7_harm_236 : decode cX7_harm 236 = .ok (.aload_n 0, 1) := by decide +kernel
theorem dX7_harm_237 : decode cX7_harm 237 = .ok (.iload_n 3, 1) := by decide +kernel
theorem dX7_harm_238 : decode cX7_harm 238 = .ok (.putfield 89, 3) := by decide +kernel
theorem dX7_harm_241 : decode cX7_harm 241 = .ok (.goto 10, 3) := by decide +kernel
theorem dX7_harm_244 : decode cX7_harm 244 = .ok (.aload_n 0, 1) := by decide +kernel
theorem dX7_harm_245 : decode cX7_harm 245 = .ok (.getfield 53, 3) := by decide +kernel
theorem dX7_harm_248 : decode cX7_harm 248 = .ok (.iload_n 2, 1) := by decide +kernel
theorem dX7_harm_249 : decode cX7_harm 249 = .ok (.iload_n 3, 1) := by decide +kernel
theorem dX7_harm_250 : decode cX7_harm 250 = .ok (.iastore, 1) := by decide +kernel
theorem dX7_harm_251 : decode cX7_harm 251 = .ok (.iload 5, 2) := by decide +kernel
theorem dX7_harm_253 : decode cX7_harm 253 = .ok (.ireturn, 1) := by decide +kernel
set_option maxRecDepth 20000 in
theorem ggX7_forget_X7_first : GoodIn wsX7_forget wsX7_first := goodIn_r _ [6, 7, 8, 9, 10, 11, 12, 13, 14, 15, 16, 17, 18, 19, 20, 21, 22, 23, 24, 25, 26, 27, 28, 29, 30, 31, 32, 33, 34, 35, 36, 37, 38, 39, 40, 41, 42, 43, 44, 45, 46, 47] (by decide +kernel) (by decide +kernel)
set_option maxRecDepth 20000 in
theorem gX7_forget_X7_first : GoodIn wsX7_forget (wsV RX7 86 RX7 yX7_first wsX7_first) := goodIn_app (goodIn_of _ (by decide +kernel)) ggX7_forget_X7_first
theorem dX7_forget_0 : decode cX7_forget 0 = .ok (.aload_n 0, 1) := by decide +kernel
theorem dX7_forget_1 : decode cX7_forget 1 = .ok (.getfield 96, 3) := by decide +kernel
theorem dX7_forget_4 : decode cX7_forget 4 = .ok (.ifCond .eq 6, 3) := by decide +kernel
theorem dX7_forget_7 : decode cX7_forget 7 = .ok (.bipush (-103), 2) := by decide +kernel
theorem dX7_forget_9 : decode cX7_forget 9 = .ok (.ireturn, 1) := by decide +kernel
theorem dX7_forget_10 : decode cX7_forget 10 = .ok (.aload_n 0, 1) := by decide +kernel
theorem dX7_forget_11 : decode cX7_forget 11 = .ok (.invokevirtual 86, 3) := by decide +kernel
theorem dX7_forget_14 : decode cX7_forget 14 = .ok (.iconst 1, 1) := by decide +kernel
theorem dX7_forget_15 : decode cX7_forget 15 = .ok (.ireturn, 1) := by decide +kernel
set_option maxRecDepth 20000 in
theorem ggX7_table_X7_in : GoodIn wsX7_table wsX7_in := goodIn_r _ [4] (by decide +kernel) (by decide +kernel)
set_option maxRecDepth 20000 in
theorem gX7_table_X7_in : GoodIn wsX7_table (va_wsS RX7 92 yX7_in wsX7_in) := goodIn_app (goodIn_of _ (by decide +kernel)) ggX7_table_X7_in
set_option maxRecDepth 20000 in
theorem ggX7_table_X7_isPlace : GoodIn wsX7_table wsX7_isPlace := goodIn_r _ [8, 1, 2, 3, 4] (by decide +kernel) (by decide +kernel)
set_option maxRecDepth 20000 in
theorem gX7_table_X7_isPlace : GoodIn wsX7_table (wsV RX7 176 RX7 yX7_isPlace wsX7_isPlace) := goodIn_app (goodIn_of _ (by decide +kernel)) ggX7_table_X7_isPlace
set_option maxRecDepth 20000 in
theorem ggX7_table_X7_tableOf : GoodIn wsX7_table wsX7_tableOf := goodIn_r _ [12, 13, 14, 15, 16, 17, 18, 19, 20, 21, 1, 2, 3, 4, 22, 23, 24, 25, 26, 27, 28, 29, 30, 31, 32, 33, 34, 35, 36, 37, 38, 39, 40, 41, 42, 43, 44, 45, 46, 47, 48, 49, 50, 51, 52, 53, 54, 55] (by decide +kernel) (by decide +kernel)
set_option maxRecDepth 20000 in
theorem gX7_table_X7_tableOf : GoodIn wsX7_table (wsV RX7 180 RX7 yX7_tableOf wsX7_tableOf) := goodIn_app (goodIn_of _ (by decide +kernel)) ggX7_table_X7_tableOf
theorem dX7_table_0 : decode cX7_table 0 = .ok (.iload_n 1, 1) := by decide +kernel
theorem dX7_table_1 : decode cX7_table 1 = .ok (.iconst 0, 1) := by decide +kernel
theorem dX7_table_2 : decode cX7_table 2 = .ok (.bipush 8, 2) := by decide +kernel
theorem dX7_table_4 : decode cX7_table 4 = .ok (.invokestatic 92, 3) := by decide +kernel
theorem dX7_table_7 : decode cX7_table 7 = .ok (.ifCond .ne 6, 3) := by decide +kernel
theorem dX7_table_10 : decode cX7_table 10 = .ok (.bipush (-102), 2) := by decide +kernel
theorem dX7_table_12 : decode cX7_table 12 = .ok (.ireturn, 1) := by decide +kernel
theorem dX7_table_13 : decode cX7_table 13 = .ok (.aload_n 0, 1) := by decide +kernel
theorem dX7_table_14 : decode cX7_table 14 = .ok (.iload_n 1, 1) := by decide +kernel
theorem dX7_table_15 : decode cX7_table 15 = .ok (.iload_n 2, 1) := by decide +kernel
theorem dX7_table_16 : decode cX7_table 16 = .ok (.invokevirtual 176, 3) := by decide +kernel
theorem dX7_table_19 : decode cX7_table 19 = .ok (.ifCond .eq 12, 3) := by decide +kernel
theorem dX7_table_22 : decode cX7_table 22 = .ok (.aload_n 0, 1) := by decide +kernel
theorem dX7_table_23 : decode cX7_table 23 = .ok (.iload_n 1, 1) := by decide +kernel
theorem dX7_table_24 : decode cX7_table 24 = .ok (.iload_n 2, 1) := by decide +kernel
theorem dX7_table_25 : decode cX7_table 25 = .ok (.invokevirtual 180, 3) := by decide +kernel
theorem dX7_table_28 : decode cX7_table 28 = .ok (.goto 5, 3) := by decide +kernel
theorem dX7_table_31 : decode cX7_table 31 = .ok (.bipush (-101), 2) := by decide +kernel
theorem dX7_table_33 : decode cX7_table 33 = .ok (.ireturn, 1) := by decide +kernel
set_option maxRecDepth 20000 in
theorem ggX7_value_X7_in : GoodIn wsX7_value wsX7_in := goodIn_r _ [5] (by decide +kernel) (by decide +kernel)
set_option maxRecDepth 20000 in
theorem gX7_value_X7_in : GoodIn wsX7_value (va_wsS RX7 92 yX7_in wsX7_in) := goodIn_app (goodIn_of _ (by decide +kernel)) ggX7_value_X7_in
set_option maxRecDepth 20000 in
theorem ggX7_value_X7_valueOf : GoodIn wsX7_value wsX7_valueOf := goodIn_r _ [9, 10, 11, 12, 13, 14, 15, 16, 17, 18, 19, 20, 21, 22, 23, 24, 25, 26, 27, 28, 29, 30, 31, 32, 33, 34, 35, 36, 37, 38, 39, 40, 41, 42, 43, 44, 45] (by decide +kernel) (by decide +kernel)
set_option maxRecDepth 20000 in
theorem gX7_value_X7_valueOf : GoodIn wsX7_value (wsV RX7 107 RX7 yX7_valueOf wsX7_valueOf) := goodIn_app (goodIn_of _ (by decide +kernel)) ggX7_value_X7_valueOf
theorem dX7_value_0 : decode cX7_value 0 = .ok (.iload_n 1, 1) := by decide +kernel
theorem dX7_value_1 : decode cX7_value 1 = .ok (.iconst 0, 1) := by decide +kernel
theorem dX7_value_2 : decode cX7_value 2 = .ok (.bipush 23, 2) := by decide +kernel
theorem dX7_value_4 : decode cX7_value 4 = .ok (.invokestatic 92, 3) := by decide +kernel
theorem dX7_value_7 : decode cX7_value 7 = .ok (.ifCond .eq 11, 3) := by decide +kernel
theorem dX7_value_10 : decode cX7_value 10 = .ok (.aload_n 0, 1) := by decide +kernel
theorem dX7_value_11 : decode cX7_value 11 = .ok (.iload_n 1, 1) := by decide +kernel
theorem dX7_value_12 : decode cX7_value 12 = .ok (.invokevirtual 107, 3) := by decide +kernel
theorem dX7_value_15 : decode cX7_value 15 = .ok (.goto 6, 3) := by decide +kernel
theorem dX7_value_18 : decode cX7_value 18 = .ok (.ldc2_w 103, 3) := by decide +kernel
theorem dX7_value_21 : decode cX7_value 21 = .ok (.lreturn, 1) := by decide +kernel
set_option maxRecDepth 20000 in
theorem ggX7_stack_X7_in : GoodIn wsX7_stack wsX7_in := goodIn_r _ [6] (by decide +kernel) (by decide +kernel)
set_option maxRecDepth 20000 in
theorem gX7_stack_X7_in : GoodIn wsX7_stack (va_wsS RX7 92 yX7_in wsX7_in) := goodIn_app (goodIn_of _ (by decide +kernel)) ggX7_stack_X7_in
theorem dX7_stack_0 : decode cX7_stack 0 = .ok (.iload_n 1, 1) := by decide +kernel
theorem dX7_stack_1 : decode cX7_stack 1 = .ok (.iconst 0, 1) := by decide +kernel
theorem dX7_stack_2 : decode cX7_stack 2 = .ok (.aload_n 0, 1) := by decide +kernel
theorem dX7_stack_3 : decode cX7_stack 3 = .ok (.getfield 114, 3) := by decide +kernel
theorem dX7_stack_6 : decode cX7_stack 6 = .ok (.iconst 1, 1) := by decide +kernel
theorem dX7_stack_7 : decode cX7_stack 7 = .ok (.isub, 1) := by decide +kernel
theorem dX7_stack_8 : decode cX7_stack 8 = .ok (.invokestatic 92, 3) := by decide +kernel
theorem dX7_stack_11 : decode cX7_stack 11 = .ok (.ifCond .eq 12, 3) := by decide +kernel
theorem dX7_stack_14 : decode cX7_stack 14 = .ok (.aload_n 0, 1) := by decide +kernel
theorem dX7_stack_15 : decode cX7_stack 15 = .ok (.getfield 28, 3) := by decide +kernel
theorem dX7_stack_18 : decode cX7_stack 18 = .ok (.iload_n 1, 1) := by decide +kernel
theorem dX7_stack_19 : decode cX7_stack 19 = .ok (.iaload, 1) := by decide +kernel
theorem dX7_stack_20 : decode cX7_stack 20 = .ok (.goto 4, 3) := by decide +kernel
theorem dX7_stack_23 : decode cX7_stack 23 = .ok (.iconst (-1), 1) := by decide +kernel
theorem dX7_stack_24 : decode cX7_stack 24 = .ok (.ireturn, 1) := by decide +kernel
set_option maxRecDepth 20000 in
theorem ggX7_done_X7_in : GoodIn wsX7_done wsX7_in := goodIn_r _ [6] (by decide +kernel) (by decide +kernel)
set_option maxRecDepth 20000 in
theorem gX7_done_X7_in : GoodIn wsX7_done (va_wsS RX7 92 yX7_in wsX7_in) := goodIn_app (goodIn_of _ (by decide +kernel)) ggX7_done_X7_in
theorem dX7_done_0 : decode cX7_done 0 = .ok (.aload_n 0, 1) := by decide +kernel
theorem dX7_done_1 : decode cX7_done 1 = .ok (.getfield 77, 3) := by decide +kernel
theorem dX7_done_4 : decode cX7_done 4 = .ok (.iconst 1, 1) := by decide +kernel
theorem dX7_done_5 : decode cX7_done 5 = .ok (.iaload, 1) := by decide +kernel
theorem dX7_done_6 : decode cX7_done 6 = .ok (.sipush 300, 3) := by decide +kernel
theorem dX7_done_9 : decode cX7_done 9 = .ok (.if_icmp .ge 12, 3) := by decide +kernel
theorem dX7_done_12 : decode cX7_done 12 = .ok (.aload_n 0, 1) := by decide +kernel
theorem dX7_done_13 : decode cX7_done 13 = .ok (.getfield 77, 3) := by decide +kernel
theorem dX7_done_16 : decode cX7_done 16 = .ok (.iconst 1, 1) := by decide +kernel
theorem dX7_done_17 : decode cX7_done 17 = .ok (.iaload, 1) := by decide +kernel
theorem dX7_done_18 : decode cX7_done 18 = .ok (.goto 6, 3) := by decide +kernel
theorem dX7_done_21 : decode cX7_done 21 = .ok (.sipush 300, 3) := by decide +kernel
theorem dX7_done_24 : decode cX7_done 24 = .ok (.istore_n 2, 1) := by decide +kernel
theorem dX7_done_25 : decode cX7_done 25 = .ok (.iload_n 1, 1) := by decide +kernel
theorem dX7_done_26 : decode cX7_done 26 = .ok (.iconst 0, 1) := by decide +kernel
theorem dX7_done_27 : decode cX7_done 27 = .ok (.iload_n 2, 1) := by decide +kernel
theorem dX7_done_28 : decode cX7_done 28 = .ok (.iconst 1, 1) := by decide +kernel
theorem dX7_done_29 : decode cX7_done 29 = .ok (.isub, 1) := by decide +kernel
theorem dX7_done_30 : decode cX7_done 30 = .ok (.invokestatic 92, 3) := by decide +kernel
theorem dX7_done_33 : decode cX7_done 33 = .ok (.ifCond .eq 12, 3) := by decide +kernel
theorem dX7_done_36 : decode cX7_done 36 = .ok (.aload_n 0, 1) := by decide +kernel
theorem dX7_done_37 : decode cX7_done 37 = .ok (.getfield 80, 3) := by decide +kernel
theorem dX7_done_40 : decode cX7_done 40 = .ok (.iload_n 1, 1) := by decide +kernel
theorem dX7_done_41 : decode cX7_done 41 = .ok (.iaload, 1) := by decide +kernel
theorem dX7_done_42 : decode cX7_done 42 = .ok (.goto 4, 3) := by decide +kernel
theorem dX7_done_45 : decode cX7_done 45 = .ok (.iconst (-1), 1) := by decide +kernel
theorem dX7_done_46 : decode cX7_done 46 = .ok (.ireturn, 1) := by decide +kernel
set_option maxRecDepth 20000 in
theorem ggX7_fetched_X7_in : GoodIn wsX7_fetched wsX7_in := goodIn_r _ [6] (by decide +kernel) (by decide +kernel)
set_option maxRecDepth 20000 in
theorem gX7_fetched_X7_in : GoodIn wsX7_fetched (va_wsS RX7 92 yX7_in wsX7_in) := goodIn_app (goodIn_of _ (by decide +kernel)) ggX7_fetched_X7_in
theorem dX7_fetched_0 : decode cX7_fetched 0 = .ok (.iload_n 1, 1) := by decide +kernel
theorem dX7_fetched_1 : decode cX7_fetched 1 = .ok (.iconst 0, 1) := by decide +kernel
theorem dX7_fetched_2 : decode cX7_fetched 2 = .ok (.aload_n 0, 1) := by decide +kernel
theorem dX7_fetched_3 : decode cX7_fetched 3 = .ok (.getfield 117, 3) := by decide +kernel
theorem dX7_fetched_6 : decode cX7_fetched 6 = .ok (.iconst 1, 1) := by decide +kernel
theorem dX7_fetched_7 : decode cX7_fetched 7 = .ok (.isub, 1) := by decide +kernel
theorem dX7_fetched_8 : decode cX7_fetched 8 = .ok (.invokestatic 92, 3) := by decide +kernel
theorem dX7_fetched_11 : decode cX7_fetched 11 = .ok (.ifCond .eq 12, 3) := by decide +kernel
theorem dX7_fetched_14 : decode cX7_fetched 14 = .ok (.aload_n 0, 1) := by decide +kernel
theorem dX7_fetched_15 : decode cX7_fetched 15 = .ok (.getfield 56, 3) := by decide +kernel
theorem dX7_fetched_18 : decode cX7_fetched 18 = .ok (.iload_n 1, 1) := by decide +kernel
theorem dX7_fetched_19 : decode cX7_fetched 19 = .ok (.iaload, 1) := by decide +kernel
theorem dX7_fetched_20 : decode cX7_fetched 20 = .ok (.goto 4, 3) := by decide +kernel
theorem dX7_fetched_23 : decode cX7_fetched 23 = .ok (.iconst (-1), 1) := by decide +kernel
theorem dX7_fetched_24 : decode cX7_fetched 24 = .ok (.ireturn, 1) := by decide +kernel
theorem dX7_known_0 : decode cX7_known 0 = .ok (.aload_n 0, 1) := by decide +kernel
theorem dX7_known_1 : decode cX7_known 1 = .ok (.getfield 96, 3) := by decide +kernel
theorem dX7_known_4 : decode cX7_known 4 = .ok (.ifCond .ne 6, 3) := by decide +kernel
theorem dX7_known_7 : decode cX7_known 7 = .ok (.bipush (-103), 2) := by decide +kernel
theorem dX7_known_9 : decode cX7_known 9 = .ok (.ireturn, 1) := by decide +kernel
theorem dX7_known_10 : decode cX7_known 10 = .ok (.aload_n 0, 1) := by decide +kernel
theorem dX7_known_11 : decode cX7_known 11 = .ok (.getfield 117, 3) := by decide +kernel
theorem dX7_known_14 : decode cX7_known 14 = .ok (.ifCond .le 12, 3) := by decide +kernel
theorem dX7_known_17 : decode cX7_known 17 = .ok (.aload_n 0, 1) := by decide +kernel
theorem dX7_known_18 : decode cX7_known 18 = .ok (.getfield 56, 3) := by decide +kernel
theorem dX7_known_21 : decode cX7_known 21 = .ok (.iconst 0, 1) := by decide +kernel
theorem dX7_known_22 : decode cX7_known 22 = .ok (.iaload, 1) := by decide +kernel
theorem dX7_known_23 : decode cX7_known 23 = .ok (.goto 7, 3) := by decide +kernel
theorem dX7_known_26 : decode cX7_known 26 = .ok (.aload_n 0, 1) := by decide +kernel
theorem dX7_known_27 : decode cX7_known 27 = .ok (.getfield 123, 3) := by decide +kernel
theorem dX7_known_30 : decode cX7_known 30 = .ok (.ireturn, 1) := by decide +kernel
set_option maxRecDepth 20000 in
theorem ggX7_told_X7_in : GoodIn wsX7_told wsX7_in := goodIn_r _ [9] (by decide +kernel) (by decide +kernel)
set_option maxRecDepth 20000 in
theorem gX7_told_X7_in : GoodIn wsX7_told (va_wsS RX7 92 yX7_in wsX7_in) := goodIn_app (goodIn_of _ (by decide +kernel)) ggX7_told_X7_in
theorem dX7_told_0 : decode cX7_told 0 = .ok (.iload_n 1, 1) := by decide +kernel
theorem dX7_told_1 : decode cX7_told 1 = .ok (.iconst 0, 1) := by decide +kernel
theorem dX7_told_2 : decode cX7_told 2 = .ok (.aload_n 0, 1) := by decide +kernel
theorem dX7_told_3 : decode cX7_told 3 = .ok (.getfield 100, 3) := by decide +kernel
theorem dX7_told_6 : decode cX7_told 6 = .ok (.iconst 1, 1) := by decide +kernel
theorem dX7_told_7 : decode cX7_told 7 = .ok (.isub, 1) := by decide +kernel
theorem dX7_told_8 : decode cX7_told 8 = .ok (.invokestatic 92, 3) := by decide +kernel
theorem dX7_told_11 : decode cX7_told 11 = .ok (.ifCond .ne 6, 3) := by decide +kernel
theorem dX7_told_14 : decode cX7_told 14 = .ok (.bipush (-101), 2) := by decide +kernel
theorem dX7_told_16 : decode cX7_told 16 = .ok (.ireturn, 1) := by decide +kernel
theorem dX7_told_17 : decode cX7_told 17 = .ok (.iload_n 2, 1) := by decide +kernel
theorem dX7_told_18 : decode cX7_told 18 = .ok (.ifCond .ne 12, 3) := by decide +kernel
theorem dX7_told_21 : decode cX7_told 21 = .ok (.aload_n 0, 1) := by decide +kernel
theorem dX7_told_22 : decode cX7_told 22 = .ok (.getfield 7, 3) := by decide +kernel
theorem dX7_told_25 : decode cX7_told 25 = .ok (.iload_n 1, 1) := by decide +kernel
theorem dX7_told_26 : decode cX7_told 26 = .ok (.iaload, 1) := by decide +kernel
theorem dX7_told_27 : decode cX7_told 27 = .ok (.goto 47, 3) := by decide +kernel
theorem dX7_told_30 : decode cX7_told 30 = .ok (.iload_n 2, 1) := by decide +kernel
theorem dX7_told_31 : decode cX7_told 31 = .ok (.iconst 1, 1) := by decide +kernel
theorem dX7_told_32 : decode cX7_told 32 = .ok (.if_icmp .ne 12, 3) := by decide +kernel
theorem dX7_told_35 : decode cX7_told 35 = .ok (.aload_n 0, 1) := by decide +kernel
theorem dX7_told_36 : decode cX7_told 36 = .ok (.getfield 13, 3) := by decide +kernel
theorem dX7_told_39 : decode cX7_told 39 = .ok (.iload_n 1, 1) := by decide +kernel
theorem dX7_told_40 : decode cX7_told 40 = .ok (.iaload, 1) := by decide +kernel
theorem dX7_told_41 : decode cX7_told 41 = .ok (.goto 33, 3) := by decide +kernel
theorem dX7_told_44 : decode cX7_told 44 = .ok (.iload_n 2, 1) := by decide +kernel
theorem dX7_told_45 : decode cX7_told 45 = .ok (.iconst 2, 1) := by decide +kernel
theorem dX7_told_46 : decode cX7_told 46 = .ok (.if_icmp .ne 12, 3) := by decide +kernel
theorem dX7_told_49 : decode cX7_told 49 = .ok (.aload_n 0, 1) := by decide +kernel
theorem dX7_told_50 : decode cX7_told 50 = .ok (.getfield 16, 3) := by decide +kernel
theorem dX7_told_53 : decode cX7_told 53 = .ok (.iload_n 1, 1) := by decide +kernel
theorem dX7_told_54 : decode cX7_told 54 = .ok (.iaload, 1) := by decide +kernel
theorem dX7_told_55 : decode cX7_told 55 = .ok (.goto 19, 3) := by decide +kernel
theorem dX7_told_58 : decode cX7_told 58 = .ok (.iload_n 2, 1) := by decide +kernel
theorem dX7_told_59 : decode cX7_told 59 = .ok (.iconst 3, 1) := by decide +kernel
theorem dX7_told_60 : decode cX7_told 60 = .ok (.if_icmp .ne 12, 3) := by decide +kernel
theorem dX7_told_63 : decode cX7_told 63 = .ok (.aload_n 0, 1) := by decide +kernel
theorem dX7_told_64 : decode cX7_told 64 = .ok (.getfield 19, 3) := by decide +kernel
theorem dX7_told_67 : decode cX7_told 67 = .ok (.iload_n 1, 1) := by decide +kernel
theorem dX7_told_68 : decode cX7_told 68 = .ok (.iaload, 1) := by decide +kernel
theorem dX7_told_69 : decode cX7_told 69 = .ok (.goto 5, 3) := by decide +kernel
theorem dX7_told_72 : decode cX7_told 72 = .ok (.bipush (-102), 2) := by decide +kernel
theorem dX7_told_74 : decode cX7_told 74 = .ok (.ireturn, 1) := by decide +kernel
set_option maxRecDepth 20000 in
theorem ggX7_count_X7_in : GoodIn wsX7_count wsX7_in := goodIn_r _ [11] (by decide +kernel) (by decide +kernel)
set_option maxRecDepth 20000 in
theorem gX7_count_X7_in : GoodIn wsX7_count (va_wsS RX7 92 yX7_in wsX7_in) := goodIn_app (goodIn_of _ (by decide +kernel)) ggX7_count_X7_in
theorem dX7_count_0 : decode cX7_count 0 = .ok (.iload_n 1, 1) := by decide +kernel
theorem dX7_count_1 : decode cX7_count 1 = .ok (.tableswitch 81 9 17 #[51, 56, 61, 81, 81, 81, 66, 71, 76], 51) := by decide +kernel
theorem dX7_count_52 : decode cX7_count 52 = .ok (.aload_n 0, 1) := by decide +kernel
theorem dX7_count_53 : decode cX7_count 53 = .ok (.getfield 114, 3) := by decide +kernel
theorem dX7_count_56 : decode cX7_count 56 = .ok (.ireturn, 1) := by decide +kernel
theorem dX7_count_57 : decode cX7_count 57 = .ok (.aload_n 0, 1) := by decide +kernel
theorem dX7_count_58 : decode cX7_count 58 = .ok (.getfield 117, 3) := by decide +kernel
theorem dX7_count_61 : decode cX7_count 61 = .ok (.ireturn, 1) := by decide +kernel
theorem dX7_count_62 : decode cX7_count 62 = .ok (.aload_n 0, 1) := by decide +kernel
theorem dX7_count_63 : decode cX7_count 63 = .ok (.getfield 123, 3) := by decide +kernel
theorem dX7_count_66 : decode cX7_count 66 = .ok (.ireturn, 1) := by decide +kernel
theorem dX7_count_67 : decode cX7_count 67 = .ok (.aload_n 0, 1) := by decide +kernel
theorem dX7_count_68 : decode cX7_count 68 = .ok (.getfield 100, 3) := by decide +kernel
theorem dX7_count_71 : decode cX7_count 71 = .ok (.ireturn, 1) := by decide +kernel
theorem dX7_count_72 : decode cX7_count 72 = .ok (.aload_n 0, 1) := by decide +kernel
theorem dX7_count_73 : decode cX7_count 73 = .ok (.getfield 111, 3) := by decide +kernel
theorem dX7_count_76 : decode cX7_count 76 = .ok (.ireturn, 1) := by decide +kernel
theorem dX7_count_77 : decode cX7_count 77 = .ok (.aload_n 0, 1) := by decide +kernel
theorem dX7_count_78 : decode cX7_count 78 = .ok (.getfield 31, 3) := by decide +kernel
theorem dX7_count_81 : decode cX7_count 81 = .ok (.ireturn, 1) := by decide +kernel
theorem dX7_count_82 : decode cX7_count 82 = .ok (.iload_n 1, 1) := by decide +kernel
theorem dX7_count_83 : decode cX7_count 83 = .ok (.iconst 0, 1) := by decide +kernel
theorem dX7_count_84 : decode cX7_count 84 = .ok (.bipush 14, 2) := by decide +kernel
theorem dX7_count_86 : decode cX7_count 86 = .ok (.invokestatic 92, 3) := by decide +kernel
theorem dX7_count_89 : decode cX7_count 89 = .ok (.ifCond .eq 12, 3) := by decide +kernel
theorem dX7_count_92 : decode cX7_count 92 = .ok (.aload_n 0, 1) := by decide +kernel
theorem dX7_count_93 : decode cX7_count 93 = .ok (.getfield 77, 3) := by decide +kernel
theorem dX7_count_96 : decode cX7_count 96 = .ok (.iload_n 1, 1) := by decide +kernel
theorem dX7_count_97 : decode cX7_count 97 = .ok (.iaload, 1) := by decide +kernel
theorem dX7_count_98 : decode cX7_count 98 = .ok (.goto 5, 3) := by decide +kernel
theorem dX7_count_101 : decode cX7_count 101 = .ok (.bipush (-102), 2) := by decide +kernel
theorem dX7_count_103 : decode cX7_count 103 = .ok (.ireturn, 1) := by decide +kernel
theorem dX7_mix_0 : decode cX7_mix 0 = .ok (.aload_n 0, 1) := by decide +kernel
theorem dX7_mix_1 : decode cX7_mix 1 = .ok (.ldc2_w 183, 3) := by decide +kernel
theorem dX7_mix_4 : decode cX7_mix 4 = .ok (.aload_n 0, 1) := by decide +kernel
theorem dX7_mix_5 : decode cX7_mix 5 = .ok (.getfield 185, 3) := by decide +kernel
theorem dX7_mix_8 : decode cX7_mix 8 = .ok (.lmul, 1) := by decide +kernel
theorem dX7_mix_9 : decode cX7_mix 9 = .ok (.lload_n 1, 1) := by decide +kernel
theorem dX7_mix_10 : decode cX7_mix 10 = .ok (.ladd, 1) := by decide +kernel
theorem dX7_mix_11 : decode cX7_mix 11 = .ok (.putfield 185, 3) := by decide +kernel
theorem dX7_mix_14 : decode cX7_mix 14 = .ok (.return_, 1) := by decide +kernel
set_option maxRecDepth 20000 in
theorem ggX7_digest_X7_told : GoodIn wsX7_digest wsX7_told := goodIn_r _ [15, 3, 16, 17, 18, 19, 20, 21, 14, 22, 52, 53, 54, 55, 56, 57, 58, 59, 60, 61, 62, 63, 64, 65, 66, 67, 68, 69, 70, 71, 72, 73, 74, 75, 76, 77, 78, 79, 80, 81, 82, 83, 84, 85] (by decide +kernel) (by decide +kernel)
set_option maxRecDepth 20000 in
theorem gX7_digest_X7_told : GoodIn wsX7_digest (wsV RX7 191 RX7 yX7_told wsX7_told) := goodIn_app (goodIn_of _ (by decide +kernel)) ggX7_digest_X7_told
set_option maxRecDepth 20000 in
theorem ggX7_digest_X7_mix : GoodIn wsX7_digest wsX7_mix := goodIn_r _ [26, 27, 2, 52, 53, 54, 55, 56, 57, 58, 59, 60, 61, 62, 63, 64, 65, 66, 67, 68, 69, 70, 71, 72, 73, 74, 75, 76, 77, 78, 79, 80, 81, 82, 83, 84, 85] (by decide +kernel) (by decide +kernel)
set_option maxRecDepth 20000 in
theorem gX7_digest_X7_mix : GoodIn wsX7_digest (wsV RX7 194 RX7 yX7_mix wsX7_mix) := goodIn_app (goodIn_of _ (by decide +kernel)) ggX7_digest_X7_mix
set_option maxRecDepth 20000 in
theorem ggX7_digest_X7_valueOf : GoodIn wsX7_digest wsX7_valueOf := goodIn_r _ [31, 32, 33, 52, 53, 54, 55, 56, 57, 58, 59, 60, 61, 62, 63, 64, 65, 66, 67, 68, 69, 70, 71, 72, 73, 74, 75, 76, 77, 78, 79, 80, 81, 82, 83, 84, 85] (by decide +kernel) (by decide +kernel)
set_option maxRecDepth 20000 in
theorem gX7_digest_X7_valueOf : GoodIn wsX7_digest (wsV RX7 107 RX7 yX7_valueOf wsX7_valueOf) := goodIn_app (goodIn_of _ (by decide +kernel)) ggX7_digest_X7_valueOf
set_option maxRecDepth 20000 in
theorem ggX7_digest_X7_tableOf : GoodIn wsX7_digest wsX7_tableOf := goodIn_r _ [37, 38, 39, 40, 41, 42, 43, 6, 7, 8, 20, 21, 14, 22, 52, 53, 54, 55, 56, 57, 58, 59, 60, 61, 62, 63, 64, 65, 66, 67, 68, 69, 70, 71, 72, 73, 74, 75, 76, 77, 78, 79, 80, 81, 82, 83, 84, 85] (by decide +kernel) (by decide +kernel)
set_option maxRecDepth 20000 in
theorem gX7_digest_X7_tableOf : GoodIn wsX7_digest (wsV RX7 180 RX7 yX7_tableOf wsX7_tableOf) := goodIn_app (goodIn_of _ (by decide +kernel)) ggX7_digest_X7_tableOf
set_option maxRecDepth 20000 in
theorem ggX7_digest_X7_count : GoodIn wsX7_digest wsX7_count := goodIn_r _ [47, 4, 9, 48, 3, 49, 50, 51, 20, 21, 14, 22, 52, 53, 54, 55, 56, 57, 58, 59, 60, 61, 62, 63, 64, 65, 66, 67, 68, 69, 70, 71, 72, 73, 74, 75, 76, 77, 78, 79, 80, 81, 82, 83, 84, 85] (by decide +kernel) (by decide +kernel)
set_option maxRecDepth 20000 in
theorem gX7_digest_X7_count : GoodIn wsX7_digest (wsV RX7 198 RX7 yX7_count wsX7_count) := goodIn_app (goodIn_of _ (by decide +kernel)) ggX7_digest_X7_count
theorem dX7_digest_0 : decode cX7_digest 0 = .ok (.aload_n 0, 1) := by decide +kernel
theorem dX7_digest_1 : decode cX7_digest 1 = .ok (.ldc2_w 189, 3) := by decide +kernel
theorem dX7_digest_4 : decode cX7_digest 4 = .ok (.putfield 185, 3) := by decide +kernel
theorem dX7_digest_7 : decode cX7_digest 7 = .ok (.iconst 0, 1) := by decide +kernel
theorem dX7_digest_8 : decode cX7_digest 8 = .ok (.istore_n 1, 1) := by decide +kernel
theorem dX7_digest_9 : decode cX7_digest 9 = .ok (.iload_n 1, 1) := by decide +kernel
theorem dX7_digest_10 : decode cX7_digest 10 = .ok (.aload_n 0, 1) := by decide +kernel
theorem dX7_digest_11 : decode cX7_digest 11 = .ok (.getfield 100, 3) := by decide +kernel
theorem dX7_digest_14 : decode cX7_digest 14 = .ok (.if_icmp .ge 33, 3) := by decide +kernel
theorem dX7_digest_17 : decode cX7_digest 17 = .ok (.iconst 0, 1) := by decide +kernel
theorem dX7_digest_18 : decode cX7_digest 18 = .ok (.istore_n 2, 1) := by decide +kernel
theorem dX7_digest_19 : decode cX7_digest 19 = .ok (.iload_n 2, 1) := by decide +kernel
theorem dX7_digest_20 : decode cX7_digest 20 = .ok (.iconst 4, 1) := by decide +kernel
theorem dX7_digest_21 : decode cX7_digest 21 = .ok (.if_icmp .ge 20, 3) := by decide +kernel
theorem dX7_digest_24 : decode cX7_digest 24 = .ok (.aload_n 0, 1) := by decide +kernel
theorem dX7_digest_25 : decode cX7_digest 25 = .ok (.aload_n 0, 1) := by decide +kernel
theorem dX7_digest_26 : decode cX7_digest 26 = .ok (.iload_n 1, 1) := by decide +kernel
theorem dX7_digest_27 : decode cX7_digest 27 = .ok (.iload_n 2, 1) := by decide +kernel
theorem dX7_digest_28 : decode cX7_digest 28 = .ok (.invokevirtual 191, 3) := by decide +kernel
theorem dX7_digest_31 : decode cX7_digest 31 = .ok (.i2l, 1) := by decide +kernel
theorem dX7_digest_32 : decode cX7_digest 32 = .ok (.invokevirtual 194, 3) := by decide +kernel
theorem dX7_digest_35 : decode cX7_digest 35 = .ok (.iinc 2 1, 3) := by decide +kernel
theorem dX7_digest_38 : decode cX7_digest 38 = .ok (.goto (-19), 3) := by decide +kernel
theorem dX7_digest_41 : decode cX7_digest 41 = .ok (.iinc 1 1, 3) := by decide +kernel
theorem dX7_digest_44 : decode cX7_digest 44 = .ok (.goto (-35), 3) := by decide +kernel
theorem dX7_digest_47 : decode cX7_digest 47 = .ok (.iconst 0, 1) := by decide +kernel
theorem dX7_digest_48 : decode cX7_digest 48 = .ok (.istore_n 1, 1) := by decide +kernel
theorem dX7_digest_49 : decode cX7_digest 49 = .ok (.iload_n 1, 1) := by decide +kernel
theorem dX7_digest_50 : decode cX7_digest 50 = .ok (.bipush 24, 2) := by decide +kernel
theorem dX7_digest_52 : decode cX7_digest 52 = .ok (.if_icmp .ge 18, 3) := by decide +kernel
theorem dX7_digest_55 : decode cX7_digest 55 = .ok (.aload_n 0, 1) := by decide +kernel
theorem dX7_digest_56 : decode cX7_digest 56 = .ok (.aload_n 0, 1) := by decide +kernel
theorem dX7_digest_57 : decode cX7_digest 57 = .ok (.iload_n 1, 1) := by decide +kernel
theorem dX7_digest_58 : decode cX7_digest 58 = .ok (.invokevirtual 107, 3) := by decide +kernel
theorem dX7_digest_61 : decode cX7_digest 61 = .ok (.invokevirtual 194, 3) := by decide +kernel
theorem dX7_digest_64 : decode cX7_digest 64 = .ok (.iinc 1 1, 3) := by decide +kernel
theorem dX7_digest_67 : decode cX7_digest 67 = .ok (.goto (-18), 3) := by decide +kernel
theorem dX7_digest_70 : decode cX7_digest 70 = .ok (.iconst 0, 1) := by decide +kernel
theorem dX7_digest_71 : decode cX7_digest 71 = .ok (.istore_n 1, 1) := by decide +kernel
theorem dX7_digest_72 : decode cX7_digest 72 = .ok (.iload_n 1, 1) := by decide +kernel
theorem dX7_digest_73 : decode cX7_digest 73 = .ok (.aload_n 0, 1) := by decide +kernel
theorem dX7_digest_74 : decode cX7_digest 74 = .ok (.getfield 114, 3) := by decide +kernel
theorem dX7_digest_77 : decode cX7_digest 77 = .ok (.if_icmp .ge 20, 3) := by decide +kernel
theorem dX7_digest_80 : decode cX7_digest 80 = .ok (.aload_n 0, 1) := by decide +kernel
theorem dX7_digest_81 : decode cX7_digest 81 = .ok (.aload_n 0, 1) := by decide +kernel
theorem dX7_digest_82 : decode cX7_digest 82 = .ok (.getfield 28, 3) := by decide +kernel
theorem dX7_digest_85 : decode cX7_digest 85 = .ok (.iload_n 1, 1) := by decide +kernel
theorem dX7_digest_86 : decode cX7_digest 86 = .ok (.iaload, 1) := by decide +kernel
theorem dX7_digest_87 : decode cX7_digest 87 = .ok (.i2l, 1) := by decide +kernel
theorem dX7_digest_88 : decode cX7_digest 88 = .ok (.invokevirtual 194, 3) := by decide +kernel
theorem dX7_digest_91 : decode cX7_digest 91 = .ok (.iinc 1 1, 3) := by decide +kernel
theorem dX7_digest_94 : decode cX7_digest 94 = .ok (.goto (-22), 3) := by decide +kernel
theorem dX7_digest_97 : decode cX7_digest 97 = .ok (.iconst 0, 1) := by decide +kernel
theorem dX7_digest_98 : decode cX7_digest 98 = .ok (.istore_n 1, 1) := by decide +kernel
theorem dX7_digest_99 : decode cX7_digest 99 = .ok (.iload_n 1, 1) := by decide +kernel
theorem dX7_digest_100 : decode cX7_digest 100 = .ok (.bipush 6, 2) := by decide +kernel
theorem dX7_digest_102 : decode cX7_digest 102 = .ok (.if_icmp .ge 44, 3) := by decide +kernel
theorem dX7_digest_105 : decode cX7_digest 105 = .ok (.iconst 0, 1) := by decide +kernel
theorem dX7_digest_106 : decode cX7_digest 106 = .ok (.istore_n 2, 1) := by decide +kernel
theorem dX7_digest_107 : decode cX7_digest 107 = .ok (.iload_n 2, 1) := by decide +kernel
theorem dX7_digest_108 : decode cX7_digest 108 = .ok (.iload_n 1, 1) := by decide +kernel
theorem dX7_digest_109 : decode cX7_digest 109 = .ok (.iconst 3, 1) := by decide +kernel
theorem dX7_digest_110 : decode cX7_digest 110 = .ok (.if_icmp .ge 8, 3) := by decide +kernel
theorem dX7_digest_113 : decode cX7_digest 113 = .ok (.bipush 16, 2) := by decide +kernel
theorem dX7_digest_115 : decode cX7_digest 115 = .ok (.goto 5, 3) := by decide +kernel
theorem dX7_digest_118 : decode cX7_digest 118 = .ok (.bipush 8, 2) := by decide +kernel
theorem dX7_digest_120 : decode cX7_digest 120 = .ok (.if_icmp .ge 20, 3) := by decide +kernel
theorem dX7_digest_123 : decode cX7_digest 123 = .ok (.aload_n 0, 1) := by decide +kernel
theorem dX7_digest_124 : decode cX7_digest 124 = .ok (.aload_n 0, 1) := by decide +kernel
theorem dX7_digest_125 : decode cX7_digest 125 = .ok (.iload_n 1, 1) := by decide +kernel
theorem dX7_digest_126 : decode cX7_digest 126 = .ok (.iload_n 2, 1) := by decide +kernel
theorem dX7_digest_127 : decode cX7_digest 127 = .ok (.invokevirtual 180, 3) := by decide +kernel
theorem dX7_digest_130 : decode cX7_digest 130 = .ok (.i2l, 1) := by decide +kernel
theorem dX7_digest_131 : decode cX7_digest 131 = .ok (.invokevirtual 194, 3) := by decide +kernel
theorem dX7_digest_134 : decode cX7_digest 134 = .ok (.iinc 2 1, 3) := by decide +kernel
theorem dX7_digest_137 : decode cX7_digest 137 = .ok (.goto (-30), 3) := by decide +kernel
theorem dX7_digest_140 : decode cX7_digest 140 = .ok (.iinc 1 1, 3) := by decide +kernel
theorem dX7_digest_143 : decode cX7_digest 143 = .ok (.goto (-44), 3) := by decide +kernel
theorem dX7_digest_146 : decode cX7_digest 146 = .ok (.aload_n 0, 1) := by decide +kernel
theorem dX7_digest_147 : decode cX7_digest 147 = .ok (.aload_n 0, 1) := by decide +kernel
theorem dX7_digest_148 : decode cX7_digest 148 = .ok (.getfield 89, 3) := by decide +kernel
theorem dX7_digest_151 : decode cX7_digest 151 = .ok (.i2l, 1) := by decide +kernel
theorem dX7_digest_152 : decode cX7_digest 152 = .ok (.invokevirtual 194, 3) := by decide +kernel
theorem dX7_digest_155 : decode cX7_digest 155 = .ok (.aload_n 0, 1) := by decide +kernel
theorem dX7_digest_156 : decode cX7_digest 156 = .ok (.aload_n 0, 1) := by decide +kernel
theorem dX7_digest_157 : decode cX7_digest 157 = .ok (.getfield 120, 3) := by decide +kernel
theorem dX7_digest_160 : decode cX7_digest 160 = .ok (.i2l, 1) := by decide +kernel
theorem dX7_digest_161 : decode cX7_digest 161 = .ok (.invokevirtual 194, 3) := by decide +kernel
theorem dX7_digest_164 : decode cX7_digest 164 = .ok (.iconst 0, 1) := by decide +kernel
theorem dX7_digest_165 : decode cX7_digest 165 = .ok (.istore_n 1, 1) := by decide +kernel
theorem dX7_digest_166 : decode cX7_digest 166 = .ok (.iload_n 1, 1) := by decide +kernel
theorem dX7_digest_167 : decode cX7_digest 167 = .ok (.aload_n 0, 1) := by decide +kernel
theorem dX7_digest_168 : decode cX7_digest 168 = .ok (.getfield 120, 3) := by decide +kernel
theorem dX7_digest_171 : decode cX7_digest 171 = .ok (.if_icmp .ge 20, 3) := by decide +kernel
theorem dX7_digest_174 : decode cX7_digest 174 = .ok (.aload_n 0, 1) := by decide +kernel
theorem dX7_digest_175 : decode cX7_digest 175 = .ok (.aload_n 0, 1) := by decide +kernel
theorem dX7_digest_176 : decode cX7_digest 176 = .ok (.getfield 53, 3) := by decide +kernel
theorem dX7_digest_179 : decode cX7_digest 179 = .ok (.iload_n 1, 1) := by decide +kernel
theorem dX7_digest_180 : decode cX7_digest 180 = .ok (.iaload, 1) := by decide +kernel
theorem dX7_digest_181 : decode cX7_digest 181 = .ok (.i2l, 1) := by decide +kernel
theorem dX7_digest_182 : decode cX7_digest 182 = .ok (.invokevirtual 194, 3) := by decide +kernel
theorem dX7_digest_185 : decode cX7_digest 185 = .ok (.iinc 1 1, 3) := by decide +kernel
theorem dX7_digest_188 : decode cX7_digest 188 = .ok (.goto (-22), 3) := by decide +kernel
theorem dX7_digest_191 : decode cX7_digest 191 = .ok (.iconst 0, 1) := by decide +kernel
theorem dX7_digest_192 : decode cX7_digest 192 = .ok (.istore_n 1, 1) := by decide +kernel
theorem dX7_digest_193 : decode cX7_digest 193 = .ok (.iload_n 1, 1) := by decide +kernel
theorem dX7_digest_194 : decode cX7_digest 194 = .ok (.aload_n 0, 1) := by decide +kernel
theorem dX7_digest_195 : decode cX7_digest 195 = .ok (.getfield 117, 3) := by decide +kernel
theorem dX7_digest_198 : decode cX7_digest 198 = .ok (.if_icmp .ge 20, 3) := by decide +kernel
theorem dX7_digest_201 : decode cX7_digest 201 = .ok (.aload_n 0, 1) := by decide +kernel
theorem dX7_digest_202 : decode cX7_digest 202 = .ok (.aload_n 0, 1) := by decide +kernel
theorem dX7_digest_203 : decode cX7_digest 203 = .ok (.getfield 56, 3) := by decide +kernel
theorem dX7_digest_206 : decode cX7_digest 206 = .ok (.iload_n 1, 1) := by decide +kernel
theorem dX7_digest_207 : decode cX7_digest 207 = .ok (.iaload, 1) := by decide +kernel
theorem dX7_digest_208 : decode cX7_digest 208 = .ok (.i2l, 1) := by decide +kernel
theorem dX7_digest_209 : decode cX7_digest 209 = .ok (.invokevirtual 194, 3) := by decide +kernel
theorem dX7_digest_212 : decode cX7_digest 212 = .ok (.iinc 1 1, 3) := by decide +kernel
theorem dX7_digest_215 : decode cX7_digest 215 = .ok (.goto (-22), 3) := by decide +kernel
theorem dX7_digest_218 : decode cX7_digest 218 = .ok (.iconst 0, 1) := by decide +kernel
theorem dX7_digest_219 : decode cX7_digest 219 = .ok (.istore_n 1, 1) := by decide +kernel
theorem dX7_digest_220 : decode cX7_digest 220 = .ok (.iload_n 1, 1) := by decide +kernel
theorem dX7_digest_221 : decode cX7_digest 221 = .ok (.bipush 18, 2) := by decide +kernel
theorem dX7_digest_223 : decode cX7_digest 223 = .ok (.if_icmp .ge 19, 3) := by decide +kernel
theorem dX7_digest_226 : decode cX7_digest 226 = .ok (.aload_n 0, 1) := by decide +kernel
theorem dX7_digest_227 : decode cX7_digest 227 = .ok (.aload_n 0, 1) := by decide +kernel
theorem dX7_digest_228 : decode cX7_digest 228 = .ok (.iload_n 1, 1) := by decide +kernel
theorem dX7_digest_229 : decode cX7_digest 229 = .ok (.invokevirtual 198, 3) := by decide +kernel
theorem dX7_digest_232 : decode cX7_digest 232 = .ok (.i2l, 1) := by decide +kernel
theorem dX7_digest_233 : decode cX7_digest 233 = .ok (.invokevirtual 194, 3) := by decide +kernel
theorem dX7_digest_236 : decode cX7_digest 236 = .ok (.iinc 1 1, 3) := by decide +kernel
theorem dX7_digest_239 : decode cX7_digest 239 = .ok (.goto (-19), 3) := by decide +kernel
theorem dX7_digest_242 : decode cX7_digest 242 = .ok (.aload_n 0, 1) := by decide +kernel
theorem dX7_digest_243 : decode cX7_digest 243 = .ok (.getfield 185, 3) := by decide +kernel
theorem dX7_digest_246 : decode cX7_digest 246 = .ok (.lreturn, 1) := by decide +kernel
theorem dJ9_max_7cf53_0 : decode cJ9_max_7cf53 0 = .ok (.iload_n 0, 1) := by decide +kernel
theorem dJ9_max_7cf53_1 : decode cJ9_max_7cf53 1 = .ok (.iload_n 1, 1) := by decide +kernel
theorem dJ9_max_7cf53_2 : decode cJ9_max_7cf53 2 = .ok (.if_icmp .lt 7, 3) := by decide +kernel
theorem dJ9_max_7cf53_5 : decode cJ9_max_7cf53 5 = .ok (.iload_n 0, 1) := by decide +kernel
theorem dJ9_max_7cf53_6 : decode cJ9_max_7cf53 6 = .ok (.goto 4, 3) := by decide +kernel
theorem dJ9_max_7cf53_9 : decode cJ9_max_7cf53 9 = .ok (.iload_n 1, 1) := by decide +kernel
theorem dJ9_max_7cf53_10 : decode cJ9_max_7cf53 10 = .ok (.ireturn, 1) := by decide +kernel
theorem dJ9_min_7cf53_0 : decode cJ9_min_7cf53 0 = .ok (.iload_n 0, 1) := by decide +kernel
theorem dJ9_min_7cf53_1 : decode cJ9_min_7cf53 1 = .ok (.iload_n 1, 1) := by decide +kernel
theorem dJ9_min_7cf53_2 : decode cJ9_min_7cf53 2 = .ok (.if_icmp .gt 7, 3) := by decide +kernel
theorem dJ9_min_7cf53_5 : decode cJ9_min_7cf53 5 = .ok (.iload_n 0, 1) := by decide +kernel
theorem dJ9_min_7cf53_6 : decode cJ9_min_7cf53 6 = .ok (.goto 4, 3) := by decide +kernel
theorem dJ9_min_7cf53_9 : decode cJ9_min_7cf53 9 = .ok (.iload_n 1, 1) := by decide +kernel
theorem dJ9_min_7cf53_10 : decode cJ9_min_7cf53 10 = .ok (.ireturn, 1) := by decide +kernel
theorem dL_law_0 : decode cL_law 0 = .ok (.new 7, 3) := by decide +kernel
theorem dL_law_3 : decode cL_law 3 = .ok (.dup, 1) := by decide +kernel
theorem dL_law_4 : decode cL_law 4 = .ok (.invokespecial 9, 3) := by decide +kernel
theorem dL_law_7 : decode cL_law 7 = .ok (.astore_n 1, 1) := by decide +kernel
theorem dL_law_8 : decode cL_law 8 = .ok (.new 10, 3) := by decide +kernel
theorem dL_law_11 : decode cL_law 11 = .ok (.dup, 1) := by decide +kernel
theorem dL_law_12 : decode cL_law 12 = .ok (.invokespecial 12, 3) := by decide +kernel
theorem dL_law_15 : decode cL_law 15 = .ok (.astore_n 2, 1) := by decide +kernel
theorem dL_law_16 : decode cL_law 16 = .ok (.iconst 0, 1) := by decide +kernel
theorem dL_law_17 : decode cL_law 17 = .ok (.istore_n 3, 1) := by decide +kernel
theorem dL_law_18 : decode cL_law 18 = .ok (.iload_n 3, 1) := by decide +kernel
theorem dL_law_19 : decode cL_law 19 = .ok (.aload_n 0, 1) := by decide +kernel
theorem dL_law_20 : decode cL_law 20 = .ok (.arraylength, 1) := by decide +kernel
theorem dL_law_21 : decode cL_law 21 = .ok (.iconst 5, 1) := by decide +kernel
theorem dL_law_22 : decode cL_law 22 = .ok (.isub, 1) := by decide +kernel
theorem dL_law_23 : decode cL_law 23 = .ok (.if_icmp .gt 567, 3) := by decide +kernel
theorem dL_law_26 : decode cL_law 26 = .ok (.aload_n 0, 1) := by decide +kernel
theorem dL_law_27 : decode cL_law 27 = .ok (.iload_n 3, 1) := by decide +kernel
theorem dL_law_28 : decode cL_law 28 = .ok (.iaload, 1) := by decide +kernel
theorem dL_law_29 : decode cL_law 29 = .ok (.bipush 31, 2) := by decide +kernel
theorem dL_law_31 : decode cL_law 31 = .ok (.iand, 1) := by decide +kernel
theorem dL_law_32 : decode cL_law 32 = .ok (.tableswitch 552 0 18 #[92, 145, 158, 192, 225, 238, 261, 274, 287, 330, 343, 376, 400, 423, 446, 469, 482, 515, 538], 92) := by decide +kernel
theorem dL_law_124 : decode cL_law 124 = .ok (.aload_n 1, 1) := by decide +kernel
theorem dL_law_125 : decode cL_law 125 = .ok (.aload_n 0, 1) := by decide +kernel
theorem dL_law_126 : decode cL_law 126 = .ok (.iload_n 3, 1) := by decide +kernel
theorem dL_law_127 : decode cL_law 127 = .ok (.iconst 1, 1) := by decide +kernel
theorem dL_law_128 : decode cL_law 128 = .ok (.iadd, 1) := by decide +kernel
theorem dL_law_129 : decode cL_law 129 = .ok (.iaload, 1) := by decide +kernel
theorem dL_law_130 : decode cL_law 130 = .ok (.aload_n 0, 1) := by decide +kernel
theorem dL_law_131 : decode cL_law 131 = .ok (.iload_n 3, 1) := by decide +kernel
theorem dL_law_132 : decode cL_law 132 = .ok (.iconst 2, 1) := by decide +kernel
theorem dL_law_133 : decode cL_law 133 = .ok (.iadd, 1) := by decide +kernel
theorem dL_law_134 : decode cL_law 134 = .ok (.iaload, 1) := by decide +kernel
theorem dL_law_135 : decode cL_law 135 = .ok (.aload_n 0, 1) := by decide +kernel
theorem dL_law_136 : decode cL_law 136 = .ok (.iload_n 3, 1) := by decide +kernel
theorem dL_law_137 : decode cL_law 137 = .ok (.iconst 3, 1) := by decide +kernel
theorem dL_law_138 : decode cL_law 138 = .ok (.iadd, 1) := by decide +kernel
theorem dL_law_139 : decode cL_law 139 = .ok (.iaload, 1) := by decide +kernel
theorem dL_law_140 : decode cL_law 140 = .ok (.aload_n 0, 1) := by decide +kernel
theorem dL_law_141 : decode cL_law 141 = .ok (.iload_n 3, 1) := by decide +kernel
theorem dL_law_142 : decode cL_law 142 = .ok (.iconst 4, 1) := by decide +kernel
theorem dL_law_143 : decode cL_law 143 = .ok (.iadd, 1) := by decide +kernel
theorem dL_law_144 : decode cL_law 144 = .ok (.iaload, 1) := by decide +kernel
theorem dL_law_145 : decode cL_law 145 = .ok (.invokevirtual 13, 3) := by decide +kernel
theorem dL_law_148 : decode cL_law 148 = .ok (.aload_n 2, 1) := by decide +kernel
theorem dL_law_149 : decode cL_law 149 = .ok (.aload_n 0, 1) := by decide +kernel
theorem dL_law_150 : decode cL_law 150 = .ok (.iload_n 3, 1) := by decide +kernel
theorem dL_law_151 : decode cL_law 151 = .ok (.iconst 1, 1) := by decide +kernel
theorem dL_law_152 : decode cL_law 152 = .ok (.iadd, 1) := by decide +kernel
theorem dL_law_153 : decode cL_law 153 = .ok (.iaload, 1) := by decide +kernel
theorem dL_law_154 : decode cL_law 154 = .ok (.aload_n 0, 1) := by decide +kernel
theorem dL_law_155 : decode cL_law 155 = .ok (.iload_n 3, 1) := by decide +kernel
theorem dL_law_156 : decode cL_law 156 = .ok (.iconst 2, 1) := by decide +kernel
theorem dL_law_157 : decode cL_law 157 = .ok (.iadd, 1) := by decide +kernel
theorem dL_law_158 : decode cL_law 158 = .ok (.iaload, 1) := by decide +kernel
theorem dL_law_159 : decode cL_law 159 = .ok (.aload_n 0, 1) := by decide +kernel
theorem dL_law_160 : decode cL_law 160 = .ok (.iload_n 3, 1) := by decide +kernel
theorem dL_law_161 : decode cL_law 161 = .ok (.iconst 3, 1) := by decide +kernel
theorem dL_law_162 : decode cL_law 162 = .ok (.iadd, 1) := by decide +kernel
theorem dL_law_163 : decode cL_law 163 = .ok (.iaload, 1) := by decide +kernel
theorem dL_law_164 : decode cL_law 164 = .ok (.aload_n 0, 1) := by decide +kernel
theorem dL_law_165 : decode cL_law 165 = .ok (.iload_n 3, 1) := by decide +kernel
theorem dL_law_166 : decode cL_law 166 = .ok (.iconst 4, 1) := by decide +kernel
theorem dL_law_167 : decode cL_law 167 = .ok (.iadd, 1) := by decide +kernel
theorem dL_law_168 : decode cL_law 168 = .ok (.iaload, 1) := by decide +kernel
theorem dL_law_169 : decode cL_law 169 = .ok (.invokevirtual 17, 3) := by decide +kernel
theorem dL_law_172 : decode cL_law 172 = .ok (.if_icmp .eq 412, 3) := by decide +kernel
theorem dL_law_175 : decode cL_law 175 = .ok (.iconst 0, 1) := by decide +kernel
theorem dL_law_176 : decode cL_law 176 = .ok (.ireturn, 1) := by decide +kernel
theorem dL_law_177 : decode cL_law 177 = .ok (.aload_n 1, 1) := by decide +kernel
theorem dL_law_178 : decode cL_law 178 = .ok (.invokevirtual 18, 3) := by decide +kernel
theorem dL_law_181 : decode cL_law 181 = .ok (.aload_n 2, 1) := by decide +kernel
theorem dL_law_182 : decode cL_law 182 = .ok (.invokevirtual 22, 3) := by decide +kernel
theorem dL_law_185 : decode cL_law 185 = .ok (.if_icmp .eq 399, 3) := by decide +kernel
theorem dL_law_188 : decode cL_law 188 = .ok (.iconst 0, 1) := by decide +kernel
theorem dL_law_189 : decode cL_law 189 = .ok (.ireturn, 1) := by decide +kernel
theorem dL_law_190 : decode cL_law 190 = .ok (.aload_n 1, 1) := by decide +kernel
theorem dL_law_191 : decode cL_law 191 = .ok (.aload_n 0, 1) := by decide +kernel
theorem dL_law_192 : decode cL_law 192 = .ok (.iload_n 3, 1) := by decide +kernel
theorem dL_law_193 : decode cL_law 193 = .ok (.iconst 1, 1) := by decide +kernel
theorem dL_law_194 : decode cL_law 194 = .ok (.iadd, 1) := by decide +kernel
theorem dL_law_195 : decode cL_law 195 = .ok (.iaload, 1) := by decide +kernel
theorem dL_law_196 : decode cL_law 196 = .ok (.aload_n 0, 1) := by decide +kernel
theorem dL_law_197 : decode cL_law 197 = .ok (.iload_n 3, 1) := by decide +kernel
theorem dL_law_198 : decode cL_law 198 = .ok (.iconst 2, 1) := by decide +kernel
theorem dL_law_199 : decode cL_law 199 = .ok (.iadd, 1) := by decide +kernel
theorem dL_law_200 : decode cL_law 200 = .ok (.iaload, 1) := by decide +kernel
theorem dL_law_201 : decode cL_law 201 = .ok (.invokevirtual 23, 3) := by decide +kernel
theorem dL_law_204 : decode cL_law 204 = .ok (.aload_n 2, 1) := by decide +kernel
theorem dL_law_205 : decode cL_law 205 = .ok (.aload_n 0, 1) := by decide +kernel
theorem dL_law_206 : decode cL_law 206 = .ok (.iload_n 3, 1) := by decide +kernel
theorem dL_law_207 : decode cL_law 207 = .ok (.iconst 1, 1) := by decide +kernel
theorem dL_law_208 : decode cL_law 208 = .ok (.iadd, 1) := by decide +kernel
theorem dL_law_209 : decode cL_law 209 = .ok (.iaload, 1) := by decide +kernel
theorem dL_law_210 : decode cL_law 210 = .ok (.aload_n 0, 1) := by decide +kernel
theorem dL_law_211 : decode cL_law 211 = .ok (.iload_n 3, 1) := by decide +kernel
theorem dL_law_212 : decode cL_law 212 = .ok (.iconst 2, 1) := by decide +kernel
theorem dL_law_213 : decode cL_law 213 = .ok (.iadd, 1) := by decide +kernel
theorem dL_law_214 : decode cL_law 214 = .ok (.iaload, 1) := by decide +kernel
theorem dL_law_215 : decode cL_law 215 = .ok (.invokevirtual 27, 3) := by decide +kernel
theorem dL_law_218 : decode cL_law 218 = .ok (.lcmp, 1) := by decide +kernel
theorem dL_law_219 : decode cL_law 219 = .ok (.ifCond .eq 365, 3) := by decide +kernel
theorem dL_law_222 : decode cL_law 222 = .ok (.iconst 0, 1) := by decide +kernel
theorem dL_law_223 : decode cL_law 223 = .ok (.ireturn, 1) := by decide +kernel
theorem dL_law_224 : decode cL_law 224 = .ok (.aload_n 1, 1) := by decide +kernel
theorem dL_law_225 : decode cL_law 225 = .ok (.aload_n 0, 1) := by decide +kernel
theorem dL_law_226 : decode cL_law 226 = .ok (.iload_n 3, 1) := by decide +kernel
theorem dL_law_227 : decode cL_law 227 = .ok (.iconst 1, 1) := by decide +kernel
theorem dL_law_228 : decode cL_law 228 = .ok (.iadd, 1) := by decide +kernel
theorem dL_law_229 : decode cL_law 229 = .ok (.iaload, 1) := by decide +kernel
theorem dL_law_230 : decode cL_law 230 = .ok (.aload_n 0, 1) := by decide +kernel
theorem dL_law_231 : decode cL_law 231 = .ok (.iload_n 3, 1) := by decide +kernel
theorem dL_law_232 : decode cL_law 232 = .ok (.iconst 2, 1) := by decide +kernel
theorem dL_law_233 : decode cL_law 233 = .ok (.iadd, 1) := by decide +kernel
theorem dL_law_234 : decode cL_law 234 = .ok (.iaload, 1) := by decide +kernel
theorem dL_law_235 : decode cL_law 235 = .ok (.invokevirtual 28, 3) := by decide +kernel
theorem dL_law_238 : decode cL_law 238 = .ok (.aload_n 2, 1) := by decide +kernel
theorem dL_law_239 : decode cL_law 239 = .ok (.aload_n 0, 1) := by decide +kernel
theorem dL_law_240 : decode cL_law 240 = .ok (.iload_n 3, 1) := by decide +kernel
theorem dL_law_241 : decode cL_law 241 = .ok (.iconst 1, 1) := by decide +kernel
theorem dL_law_242 : decode cL_law 242 = .ok (.iadd, 1) := by decide +kernel
theorem dL_law_243 : decode cL_law 243 = .ok (.iaload, 1) := by decide +kernel
theorem dL_law_244 : decode cL_law 244 = .ok (.aload_n 0, 1) := by decide +kernel
theorem dL_law_245 : decode cL_law 245 = .ok (.iload_n 3, 1) := by decide +kernel
theorem dL_law_246 : decode cL_law 246 = .ok (.iconst 2, 1) := by decide +kernel
theorem dL_law_247 : decode cL_law 247 = .ok (.iadd, 1) := by decide +kernel
theorem dL_law_248 : decode cL_law 248 = .ok (.iaload, 1) := by decide +kernel
theorem dL_law_249 : decode cL_law 249 = .ok (.invokevirtual 32, 3) := by decide +kernel
theorem dL_law_252 : decode cL_law 252 = .ok (.if_icmp .eq 332, 3) := by decide +kernel
theorem dL_law_255 : decode cL_law 255 = .ok (.iconst 0, 1) := by decide +kernel
theorem dL_law_256 : decode cL_law 256 = .ok (.ireturn, 1) := by decide +kernel
theorem dL_law_257 : decode cL_law 257 = .ok (.aload_n 1, 1) := by decide +kernel
theorem dL_law_258 : decode cL_law 258 = .ok (.invokevirtual 33, 3) := by decide +kernel
theorem dL_law_261 : decode cL_law 261 = .ok (.aload_n 2, 1) := by decide +kernel
theorem dL_law_262 : decode cL_law 262 = .ok (.invokevirtual 36, 3) := by decide +kernel
theorem dL_law_265 : decode cL_law 265 = .ok (.if_icmp .eq 319, 3) := by decide +kernel
theorem dL_law_268 : decode cL_law 268 = .ok (.iconst 0, 1) := by decide +kernel
theorem dL_law_269 : decode cL_law 269 = .ok (.ireturn, 1) := by decide +kernel
theorem dL_law_270 : decode cL_law 270 = .ok (.aload_n 1, 1) := by decide +kernel
theorem dL_law_271 : decode cL_law 271 = .ok (.aload_n 0, 1) := by decide +kernel
theorem dL_law_272 : decode cL_law 272 = .ok (.iload_n 3, 1) := by decide +kernel
theorem dL_law_273 : decode cL_law 273 = .ok (.iconst 1, 1) := by decide +kernel
theorem dL_law_274 : decode cL_law 274 = .ok (.iadd, 1) := by decide +kernel
theorem dL_law_275 : decode cL_law 275 = .ok (.iaload, 1) := by decide +kernel
theorem dL_law_276 : decode cL_law 276 = .ok (.invokevirtual 37, 3) := by decide +kernel
theorem dL_law_279 : decode cL_law 279 = .ok (.aload_n 2, 1) := by decide +kernel
theorem dL_law_280 : decode cL_law 280 = .ok (.aload_n 0, 1) := by decide +kernel
theorem dL_law_281 : decode cL_law 281 = .ok (.iload_n 3, 1) := by decide +kernel
theorem dL_law_282 : decode cL_law 282 = .ok (.iconst 1, 1) := by decide +kernel
theorem dL_law_283 : decode cL_law 283 = .ok (.iadd, 1) := by decide +kernel
theorem dL_law_284 : decode cL_law 284 = .ok (.iaload, 1) := by decide +kernel
theorem dL_law_285 : decode cL_law 285 = .ok (.invokevirtual 41, 3) := by decide +kernel
theorem dL_law_288 : decode cL_law 288 = .ok (.if_icmp .eq 296, 3) := by decide +kernel
theorem dL_law_291 : decode cL_law 291 = .ok (.iconst 0, 1) := by decide +kernel
theorem dL_law_292 : decode cL_law 292 = .ok (.ireturn, 1) := by decide +kernel
theorem dL_law_293 : decode cL_law 293 = .ok (.aload_n 1, 1) := by decide +kernel
theorem dL_law_294 : decode cL_law 294 = .ok (.invokevirtual 42, 3) := by decide +kernel
theorem dL_law_297 : decode cL_law 297 = .ok (.aload_n 2, 1) := by decide +kernel
theorem dL_law_298 : decode cL_law 298 = .ok (.invokevirtual 45, 3) := by decide +kernel
theorem dL_law_301 : decode cL_law 301 = .ok (.if_icmp .eq 283, 3) := by decide +kernel
theorem dL_law_304 : decode cL_law 304 = .ok (.iconst 0, 1) := by decide +kernel
theorem dL_law_305 : decode cL_law 305 = .ok (.ireturn, 1) := by decide +kernel
theorem dL_law_306 : decode cL_law 306 = .ok (.aload_n 1, 1) := by decide +kernel
theorem dL_law_307 : decode cL_law 307 = .ok (.invokevirtual 46, 3) := by decide +kernel
theorem dL_law_310 : decode cL_law 310 = .ok (.aload_n 2, 1) := by decide +kernel
theorem dL_law_311 : decode cL_law 311 = .ok (.invokevirtual 49, 3) := by decide +kernel
theorem dL_law_314 : decode cL_law 314 = .ok (.if_icmp .eq 270, 3) := by decide +kernel
theorem dL_law_317 : decode cL_law 317 = .ok (.iconst 0, 1) := by decide +kernel
theorem dL_law_318 : decode cL_law 318 = .ok (.ireturn, 1) := by decide +kernel
theorem dL_law_319 : decode cL_law 319 = .ok (.aload_n 1, 1) := by decide +kernel
theorem dL_law_320 : decode cL_law 320 = .ok (.aload_n 0, 1) := by decide +kernel
theorem dL_law_321 : decode cL_law 321 = .ok (.iload_n 3, 1) := by decide +kernel
theorem dL_law_322 : decode cL_law 322 = .ok (.iconst 1, 1) := by decide +kernel
theorem dL_law_323 : decode cL_law 323 = .ok (.iadd, 1) := by decide +kernel
theorem dL_law_324 : decode cL_law 324 = .ok (.iaload, 1) := by decide +kernel
theorem dL_law_325 : decode cL_law 325 = .ok (.aload_n 0, 1) := by decide +kernel
theorem dL_law_326 : decode cL_law 326 = .ok (.iload_n 3, 1) := by decide +kernel
theorem dL_law_327 : decode cL_law 327 = .ok (.iconst 2, 1) := by decide +kernel
theorem dL_law_328 : decode cL_law 328 = .ok (.iadd, 1) := by decide +kernel
theorem dL_law_329 : decode cL_law 329 = .ok (.iaload, 1) := by decide +kernel
theorem dL_law_330 : decode cL_law 330 = .ok (.aload_n 0, 1) := by decide +kernel
theorem dL_law_331 : decode cL_law 331 = .ok (.iload_n 3, 1) := by decide +kernel
theorem dL_law_332 : decode cL_law 332 = .ok (.iconst 3, 1) := by decide +kernel
theorem dL_law_333 : decode cL_law 333 = .ok (.iadd, 1) := by decide +kernel
theorem dL_law_334 : decode cL_law 334 = .ok (.iaload, 1) := by decide +kernel
theorem dL_law_335 : decode cL_law 335 = .ok (.invokevirtual 50, 3) := by decide +kernel
theorem dL_law_338 : decode cL_law 338 = .ok (.aload_n 2, 1) := by decide +kernel
theorem dL_law_339 : decode cL_law 339 = .ok (.aload_n 0, 1) := by decide +kernel
theorem dL_law_340 : decode cL_law 340 = .ok (.iload_n 3, 1) := by decide +kernel
theorem dL_law_341 : decode cL_law 341 = .ok (.iconst 1, 1) := by decide +kernel
theorem dL_law_342 : decode cL_law 342 = .ok (.iadd, 1) := by decide +kernel
theorem dL_law_343 : decode cL_law 343 = .ok (.iaload, 1) := by decide +kernel
theorem dL_law_344 : decode cL_law 344 = .ok (.aload_n 0, 1) := by decide +kernel
theorem dL_law_345 : decode cL_law 345 = .ok (.iload_n 3, 1) := by decide +kernel
theorem dL_law_346 : decode cL_law 346 = .ok (.iconst 2, 1) := by decide +kernel
theorem dL_law_347 : decode cL_law 347 = .ok (.iadd, 1) := by decide +kernel
theorem dL_law_348 : decode cL_law 348 = .ok (.iaload, 1) := by decide +kernel
theorem dL_law_349 : decode cL_law 349 = .ok (.aload_n 0, 1) := by decide +kernel
theorem dL_law_350 : decode cL_law 350 = .ok (.iload_n 3, 1) := by decide +kernel
theorem dL_law_351 : decode cL_law 351 = .ok (.iconst 3, 1) := by decide +kernel
theorem dL_law_352 : decode cL_law 352 = .ok (.iadd, 1) := by decide +kernel
theorem dL_law_353 : decode cL_law 353 = .ok (.iaload, 1) := by decide +kernel
theorem dL_law_354 : decode cL_law 354 = .ok (.invokevirtual 54, 3) := by decide +kernel
theorem dL_law_357 : decode cL_law 357 = .ok (.if_icmp .eq 227, 3) := by decide +kernel
theorem dL_law_360 : decode cL_law 360 = .ok (.iconst 0, 1) := by decide +kernel
theorem dL_law_361 : decode cL_law 361 = .ok (.ireturn, 1) := by decide +kernel
theorem dL_law_362 : decode cL_law 362 = .ok (.aload_n 1, 1) := by decide +kernel
theorem dL_law_363 : decode cL_law 363 = .ok (.invokevirtual 55, 3) := by decide +kernel
theorem dL_law_366 : decode cL_law 366 = .ok (.aload_n 2, 1) := by decide +kernel
theorem dL_law_367 : decode cL_law 367 = .ok (.invokevirtual 58, 3) := by decide +kernel
theorem dL_law_370 : decode cL_law 370 = .ok (.if_icmp .eq 214, 3) := by decide +kernel
theorem dL_law_373 : decode cL_law 373 = .ok (.iconst 0, 1) := by decide +kernel
theorem dL_law_374 : decode cL_law 374 = .ok (.ireturn, 1) := by decide +kernel
theorem dL_law_375 : decode cL_law 375 = .ok (.aload_n 1, 1) := by decide +kernel
theorem dL_law_376 : decode cL_law 376 = .ok (.aload_n 0, 1) := by decide +kernel
theorem dL_law_377 : decode cL_law 377 = .ok (.iload_n 3, 1) := by decide +kernel
theorem dL_law_378 : decode cL_law 378 = .ok (.iconst 1, 1) := by decide +kernel
theorem dL_law_379 : decode cL_law 379 = .ok (.iadd, 1) := by decide +kernel
theorem dL_law_380 : decode cL_law 380 = .ok (.iaload, 1) := by decide +kernel
theorem dL_law_381 : decode cL_law 381 = .ok (.aload_n 0, 1) := by decide +kernel
theorem dL_law_382 : decode cL_law 382 = .ok (.iload_n 3, 1) := by decide +kernel
theorem dL_law_383 : decode cL_law 383 = .ok (.iconst 2, 1) := by decide +kernel
theorem dL_law_384 : decode cL_law 384 = .ok (.iadd, 1) := by decide +kernel
theorem dL_law_385 : decode cL_law 385 = .ok (.iaload, 1) := by decide +kernel
theorem dL_law_386 : decode cL_law 386 = .ok (.invokevirtual 59, 3) := by decide +kernel
theorem dL_law_389 : decode cL_law 389 = .ok (.aload_n 2, 1) := by decide +kernel
theorem dL_law_390 : decode cL_law 390 = .ok (.aload_n 0, 1) := by decide +kernel
theorem dL_law_391 : decode cL_law 391 = .ok (.iload_n 3, 1) := by decide +kernel
theorem dL_law_392 : decode cL_law 392 = .ok (.iconst 1, 1) := by decide +kernel
theorem dL_law_393 : decode cL_law 393 = .ok (.iadd, 1) := by decide +kernel
theorem dL_law_394 : decode cL_law 394 = .ok (.iaload, 1) := by decide +kernel
theorem dL_law_395 : decode cL_law 395 = .ok (.aload_n 0, 1) := by decide +kernel
theorem dL_law_396 : decode cL_law 396 = .ok (.iload_n 3, 1) := by decide +kernel
theorem dL_law_397 : decode cL_law 397 = .ok (.iconst 2, 1) := by decide +kernel
theorem dL_law_398 : decode cL_law 398 = .ok (.iadd, 1) := by decide +kernel
theorem dL_law_399 : decode cL_law 399 = .ok (.iaload, 1) := by decide +kernel
theorem dL_law_400 : decode cL_law 400 = .ok (.invokevirtual 62, 3) := by decide +kernel
theorem dL_law_403 : decode cL_law 403 = .ok (.if_icmp .eq 181, 3) := by decide +kernel
theorem dL_law_406 : decode cL_law 406 = .ok (.iconst 0, 1) := by decide +kernel
theorem dL_law_407 : decode cL_law 407 = .ok (.ireturn, 1) := by decide +kernel
theorem dL_law_408 : decode cL_law 408 = .ok (.aload_n 1, 1) := by decide +kernel
theorem dL_law_409 : decode cL_law 409 = .ok (.aload_n 0, 1) := by decide +kernel
theorem dL_law_410 : decode cL_law 410 = .ok (.iload_n 3, 1) := by decide +kernel
theorem dL_law_411 : decode cL_law 411 = .ok (.iconst 1, 1) := by decide +kernel
theorem dL_law_412 : decode cL_law 412 = .ok (.iadd, 1) := by decide +kernel
theorem dL_law_413 : decode cL_law 413 = .ok (.iaload, 1) := by decide +kernel
theorem dL_law_414 : decode cL_law 414 = .ok (.invokevirtual 63, 3) := by decide +kernel
theorem dL_law_417 : decode cL_law 417 = .ok (.aload_n 2, 1) := by decide +kernel
theorem dL_law_418 : decode cL_law 418 = .ok (.aload_n 0, 1) := by decide +kernel
theorem dL_law_419 : decode cL_law 419 = .ok (.iload_n 3, 1) := by decide +kernel
theorem dL_law_420 : decode cL_law 420 = .ok (.iconst 1, 1) := by decide +kernel
theorem dL_law_421 : decode cL_law 421 = .ok (.iadd, 1) := by decide +kernel
theorem dL_law_422 : decode cL_law 422 = .ok (.iaload, 1) := by decide +kernel
theorem dL_law_423 : decode cL_law 423 = .ok (.invokevirtual 67, 3) := by decide +kernel
theorem dL_law_426 : decode cL_law 426 = .ok (.lcmp, 1) := by decide +kernel
theorem dL_law_427 : decode cL_law 427 = .ok (.ifCond .eq 157, 3) := by decide +kernel
theorem dL_law_430 : decode cL_law 430 = .ok (.iconst 0, 1) := by decide +kernel
theorem dL_law_431 : decode cL_law 431 = .ok (.ireturn, 1) := by decide +kernel
theorem dL_law_432 : decode cL_law 432 = .ok (.aload_n 1, 1) := by decide +kernel
theorem dL_law_433 : decode cL_law 433 = .ok (.aload_n 0, 1) := by decide +kernel
theorem dL_law_434 : decode cL_law 434 = .ok (.iload_n 3, 1) := by decide +kernel
theorem dL_law_435 : decode cL_law 435 = .ok (.iconst 1, 1) := by decide +kernel
theorem dL_law_436 : decode cL_law 436 = .ok (.iadd, 1) := by decide +kernel
theorem dL_law_437 : decode cL_law 437 = .ok (.iaload, 1) := by decide +kernel
theorem dL_law_438 : decode cL_law 438 = .ok (.invokevirtual 68, 3) := by decide +kernel
theorem dL_law_441 : decode cL_law 441 = .ok (.aload_n 2, 1) := by decide +kernel
theorem dL_law_442 : decode cL_law 442 = .ok (.aload_n 0, 1) := by decide +kernel
theorem dL_law_443 : decode cL_law 443 = .ok (.iload_n 3, 1) := by decide +kernel
theorem dL_law_444 : decode cL_law 444 = .ok (.iconst 1, 1) := by decide +kernel
theorem dL_law_445 : decode cL_law 445 = .ok (.iadd, 1) := by decide +kernel
theorem dL_law_446 : decode cL_law 446 = .ok (.iaload, 1) := by decide +kernel
theorem dL_law_447 : decode cL_law 447 = .ok (.invokevirtual 71, 3) := by decide +kernel
theorem dL_law_450 : decode cL_law 450 = .ok (.if_icmp .eq 134, 3) := by decide +kernel
theorem dL_law_453 : decode cL_law 453 = .ok (.iconst 0, 1) := by decide +kernel
theorem dL_law_454 : decode cL_law 454 = .ok (.ireturn, 1) := by decide +kernel
theorem dL_law_455 : decode cL_law 455 = .ok (.aload_n 1, 1) := by decide +kernel
theorem dL_law_456 : decode cL_law 456 = .ok (.aload_n 0, 1) := by decide +kernel
theorem dL_law_457 : decode cL_law 457 = .ok (.iload_n 3, 1) := by decide +kernel
theorem dL_law_458 : decode cL_law 458 = .ok (.iconst 1, 1) := by decide +kernel
theorem dL_law_459 : decode cL_law 459 = .ok (.iadd, 1) := by decide +kernel
theorem dL_law_460 : decode cL_law 460 = .ok (.iaload, 1) := by decide +kernel
theorem dL_law_461 : decode cL_law 461 = .ok (.invokevirtual 72, 3) := by decide +kernel
theorem dL_law_464 : decode cL_law 464 = .ok (.aload_n 2, 1) := by decide +kernel
theorem dL_law_465 : decode cL_law 465 = .ok (.aload_n 0, 1) := by decide +kernel
theorem dL_law_466 : decode cL_law 466 = .ok (.iload_n 3, 1) := by decide +kernel
theorem dL_law_467 : decode cL_law 467 = .ok (.iconst 1, 1) := by decide +kernel
theorem dL_law_468 : decode cL_law 468 = .ok (.iadd, 1) := by decide +kernel
theorem dL_law_469 : decode cL_law 469 = .ok (.iaload, 1) := by decide +kernel
theorem dL_law_470 : decode cL_law 470 = .ok (.invokevirtual 75, 3) := by decide +kernel
theorem dL_law_473 : decode cL_law 473 = .ok (.if_icmp .eq 111, 3) := by decide +kernel
theorem dL_law_476 : decode cL_law 476 = .ok (.iconst 0, 1) := by decide +kernel
theorem dL_law_477 : decode cL_law 477 = .ok (.ireturn, 1) := by decide +kernel
theorem dL_law_478 : decode cL_law 478 = .ok (.aload_n 1, 1) := by decide +kernel
theorem dL_law_479 : decode cL_law 479 = .ok (.aload_n 0, 1) := by decide +kernel
theorem dL_law_480 : decode cL_law 480 = .ok (.iload_n 3, 1) := by decide +kernel
theorem dL_law_481 : decode cL_law 481 = .ok (.iconst 1, 1) := by decide +kernel
theorem dL_law_482 : decode cL_law 482 = .ok (.iadd, 1) := by decide +kernel
theorem dL_law_483 : decode cL_law 483 = .ok (.iaload, 1) := by decide +kernel
theorem dL_law_484 : decode cL_law 484 = .ok (.invokevirtual 76, 3) := by decide +kernel
theorem dL_law_487 : decode cL_law 487 = .ok (.aload_n 2, 1) := by decide +kernel
theorem dL_law_488 : decode cL_law 488 = .ok (.aload_n 0, 1) := by decide +kernel
theorem dL_law_489 : decode cL_law 489 = .ok (.iload_n 3, 1) := by decide +kernel
theorem dL_law_490 : decode cL_law 490 = .ok (.iconst 1, 1) := by decide +kernel
theorem dL_law_491 : decode cL_law 491 = .ok (.iadd, 1) := by decide +kernel
theorem dL_law_492 : decode cL_law 492 = .ok (.iaload, 1) := by decide +kernel
theorem dL_law_493 : decode cL_law 493 = .ok (.invokevirtual 79, 3) := by decide +kernel
theorem dL_law_496 : decode cL_law 496 = .ok (.if_icmp .eq 88, 3) := by decide +kernel
theorem dL_law_499 : decode cL_law 499 = .ok (.iconst 0, 1) := by decide +kernel
theorem dL_law_500 : decode cL_law 500 = .ok (.ireturn, 1) := by decide +kernel
theorem dL_law_501 : decode cL_law 501 = .ok (.aload_n 1, 1) := by decide +kernel
theorem dL_law_502 : decode cL_law 502 = .ok (.invokevirtual 80, 3) := by decide +kernel
theorem dL_law_505 : decode cL_law 505 = .ok (.aload_n 2, 1) := by decide +kernel
theorem dL_law_506 : decode cL_law 506 = .ok (.invokevirtual 83, 3) := by decide +kernel
theorem dL_law_509 : decode cL_law 509 = .ok (.if_icmp .eq 75, 3) := by decide +kernel
theorem dL_law_512 : decode cL_law 512 = .ok (.iconst 0, 1) := by decide +kernel
theorem dL_law_513 : decode cL_law 513 = .ok (.ireturn, 1) := by decide +kernel
theorem dL_law_514 : decode cL_law 514 = .ok (.aload_n 1, 1) := by decide +kernel
theorem dL_law_515 : decode cL_law 515 = .ok (.aload_n 0, 1) := by decide +kernel
theorem dL_law_516 : decode cL_law 516 = .ok (.iload_n 3, 1) := by decide +kernel
theorem dL_law_517 : decode cL_law 517 = .ok (.iconst 1, 1) := by decide +kernel
theorem dL_law_518 : decode cL_law 518 = .ok (.iadd, 1) := by decide +kernel
theorem dL_law_519 : decode cL_law 519 = .ok (.iaload, 1) := by decide +kernel
theorem dL_law_520 : decode cL_law 520 = .ok (.aload_n 0, 1) := by decide +kernel
theorem dL_law_521 : decode cL_law 521 = .ok (.iload_n 3, 1) := by decide +kernel
theorem dL_law_522 : decode cL_law 522 = .ok (.iconst 2, 1) := by decide +kernel
theorem dL_law_523 : decode cL_law 523 = .ok (.iadd, 1) := by decide +kernel
theorem dL_law_524 : decode cL_law 524 = .ok (.iaload, 1) := by decide +kernel
theorem dL_law_525 : decode cL_law 525 = .ok (.invokevirtual 84, 3) := by decide +kernel
theorem dL_law_528 : decode cL_law 528 = .ok (.aload_n 2, 1) := by decide +kernel
theorem dL_law_529 : decode cL_law 529 = .ok (.aload_n 0, 1) := by decide +kernel
theorem dL_law_530 : decode cL_law 530 = .ok (.iload_n 3, 1) := by decide +kernel
theorem dL_law_531 : decode cL_law 531 = .ok (.iconst 1, 1) := by decide +kernel
theorem dL_law_532 : decode cL_law 532 = .ok (.iadd, 1) := by decide +kernel
theorem dL_law_533 : decode cL_law 533 = .ok (.iaload, 1) := by decide +kernel
theorem dL_law_534 : decode cL_law 534 = .ok (.aload_n 0, 1) := by decide +kernel
theorem dL_law_535 : decode cL_law 535 = .ok (.iload_n 3, 1) := by decide +kernel
theorem dL_law_536 : decode cL_law 536 = .ok (.iconst 2, 1) := by decide +kernel
theorem dL_law_537 : decode cL_law 537 = .ok (.iadd, 1) := by decide +kernel
theorem dL_law_538 : decode cL_law 538 = .ok (.iaload, 1) := by decide +kernel
theorem dL_law_539 : decode cL_law 539 = .ok (.invokevirtual 87, 3) := by decide +kernel
theorem dL_law_542 : decode cL_law 542 = .ok (.if_icmp .eq 42, 3) := by decide +kernel
theorem dL_law_545 : decode cL_law 545 = .ok (.iconst 0, 1) := by decide +kernel
theorem dL_law_546 : decode cL_law 546 = .ok (.ireturn, 1) := by decide +kernel
theorem dL_law_547 : decode cL_law 547 = .ok (.aload_n 1, 1) := by decide +kernel
theorem dL_law_548 : decode cL_law 548 = .ok (.aload_n 0, 1) := by decide +kernel
theorem dL_law_549 : decode cL_law 549 = .ok (.iload_n 3, 1) := by decide +kernel
theorem dL_law_550 : decode cL_law 550 = .ok (.iconst 1, 1) := by decide +kernel
theorem dL_law_551 : decode cL_law 551 = .ok (.iadd, 1) := by decide +kernel
theorem dL_law_552 : decode cL_law 552 = .ok (.iaload, 1) := by decide +kernel
theorem dL_law_553 : decode cL_law 553 = .ok (.invokevirtual 88, 3) := by decide +kernel
theorem dL_law_556 : decode cL_law 556 = .ok (.aload_n 2, 1) := by decide +kernel
theorem dL_law_557 : decode cL_law 557 = .ok (.aload_n 0, 1) := by decide +kernel
theorem dL_law_558 : decode cL_law 558 = .ok (.iload_n 3, 1) := by decide +kernel
theorem dL_law_559 : decode cL_law 559 = .ok (.iconst 1, 1) := by decide +kernel
theorem dL_law_560 : decode cL_law 560 = .ok (.iadd, 1) := by decide +kernel
theorem dL_law_561 : decode cL_law 561 = .ok (.iaload, 1) := by decide +kernel
theorem dL_law_562 : decode cL_law 562 = .ok (.invokevirtual 91, 3) := by decide +kernel
theorem dL_law_565 : decode cL_law 565 = .ok (.if_icmp .eq 19, 3) := by decide +kernel
theorem dL_law_568 : decode cL_law 568 = .ok (.iconst 0, 1) := by decide +kernel
theorem dL_law_569 : decode cL_law 569 = .ok (.ireturn, 1) := by decide +kernel
theorem dL_law_570 : decode cL_law 570 = .ok (.aload_n 1, 1) := by decide +kernel
theorem dL_law_571 : decode cL_law 571 = .ok (.invokevirtual 92, 3) := by decide +kernel
theorem dL_law_574 : decode cL_law 574 = .ok (.aload_n 2, 1) := by decide +kernel
theorem dL_law_575 : decode cL_law 575 = .ok (.invokevirtual 96, 3) := by decide +kernel
theorem dL_law_578 : decode cL_law 578 = .ok (.lcmp, 1) := by decide +kernel
theorem dL_law_579 : decode cL_law 579 = .ok (.ifCond .eq 5, 3) := by decide +kernel
theorem dL_law_582 : decode cL_law 582 = .ok (.iconst 0, 1) := by decide +kernel
theorem dL_law_583 : decode cL_law 583 = .ok (.ireturn, 1) := by decide +kernel
theorem dL_law_584 : decode cL_law 584 = .ok (.iinc 3 5, 3) := by decide +kernel
theorem dL_law_587 : decode cL_law 587 = .ok (.goto (-569), 3) := by decide +kernel
theorem dL_law_590 : decode cL_law 590 = .ok (.iconst 1, 1) := by decide +kernel
theorem dL_law_591 : decode cL_law 591 = .ok (.ireturn, 1) := by decide +kernel
