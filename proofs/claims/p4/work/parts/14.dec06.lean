theorem d_M_beginNode_295 : decode b_M_beginNode 295 = .ok (.iload_n 1, 1) := by decide +kernel
theorem d_M_beginNode_296 : decode b_M_beginNode 296 = .ok (.iaload, 1) := by decide +kernel
theorem d_M_beginNode_297 : decode b_M_beginNode 297 = .ok (.aload_n 0, 1) := by decide +kernel
theorem d_M_beginNode_298 : decode b_M_beginNode 298 = .ok (.iload_n 1, 1) := by decide +kernel
theorem d_M_beginNode_299 : decode b_M_beginNode 299 = .ok (.invokevirtual 217, 3) := by decide +kernel
theorem d_M_beginNode_302 : decode b_M_beginNode 302 = .ok (.invokevirtual 213, 3) := by decide +kernel
theorem d_M_beginNode_305 : decode b_M_beginNode 305 = .ok (.goto (233), 3) := by decide +kernel
theorem d_M_beginNode_308 : decode b_M_beginNode 308 = .ok (.aload_n 0, 1) := by decide +kernel
theorem d_M_beginNode_309 : decode b_M_beginNode 309 = .ok (.getfield 61, 3) := by decide +kernel
theorem d_M_beginNode_312 : decode b_M_beginNode 312 = .ok (.aload_n 0, 1) := by decide +kernel
theorem d_M_beginNode_313 : decode b_M_beginNode 313 = .ok (.getfield 166, 3) := by decide +kernel
theorem d_M_beginNode_316 : decode b_M_beginNode 316 = .ok (.iconst 1, 1) := by decide +kernel
theorem d_M_beginNode_317 : decode b_M_beginNode 317 = .ok (.isub, 1) := by decide +kernel
theorem d_M_beginNode_318 : decode b_M_beginNode 318 = .ok (.iaload, 1) := by decide +kernel
theorem d_M_beginNode_319 : decode b_M_beginNode 319 = .ok (.bipush (6), 2) := by decide +kernel
theorem d_M_beginNode_321 : decode b_M_beginNode 321 = .ok (.if_icmp .ne (17), 3) := by decide +kernel
theorem d_M_beginNode_324 : decode b_M_beginNode 324 = .ok (.aload_n 0, 1) := by decide +kernel
theorem d_M_beginNode_325 : decode b_M_beginNode 325 = .ok (.getfield 70, 3) := by decide +kernel
theorem d_M_beginNode_328 : decode b_M_beginNode 328 = .ok (.aload_n 0, 1) := by decide +kernel
theorem d_M_beginNode_329 : decode b_M_beginNode 329 = .ok (.getfield 166, 3) := by decide +kernel
theorem d_M_beginNode_332 : decode b_M_beginNode 332 = .ok (.iconst 1, 1) := by decide +kernel
theorem d_M_beginNode_333 : decode b_M_beginNode 333 = .ok (.isub, 1) := by decide +kernel
theorem d_M_beginNode_334 : decode b_M_beginNode 334 = .ok (.iaload, 1) := by decide +kernel
theorem d_M_beginNode_335 : decode b_M_beginNode 335 = .ok (.goto (4), 3) := by decide +kernel
theorem d_M_beginNode_338 : decode b_M_beginNode 338 = .ok (.iconst (-1), 1) := by decide +kernel
theorem d_M_beginNode_339 : decode b_M_beginNode 339 = .ok (.istore 5, 2) := by decide +kernel
theorem d_M_beginNode_341 : decode b_M_beginNode 341 = .ok (.aload_n 0, 1) := by decide +kernel
theorem d_M_beginNode_342 : decode b_M_beginNode 342 = .ok (.getfield 70, 3) := by decide +kernel
theorem d_M_beginNode_345 : decode b_M_beginNode 345 = .ok (.aload_n 0, 1) := by decide +kernel
theorem d_M_beginNode_346 : decode b_M_beginNode 346 = .ok (.getfield 166, 3) := by decide +kernel
theorem d_M_beginNode_349 : decode b_M_beginNode 349 = .ok (.iconst 1, 1) := by decide +kernel
theorem d_M_beginNode_350 : decode b_M_beginNode 350 = .ok (.isub, 1) := by decide +kernel
theorem d_M_beginNode_351 : decode b_M_beginNode 351 = .ok (.dup2, 1) := by decide +kernel
theorem d_M_beginNode_352 : decode b_M_beginNode 352 = .ok (.iaload, 1) := by decide +kernel
theorem d_M_beginNode_353 : decode b_M_beginNode 353 = .ok (.iconst 1, 1) := by decide +kernel
theorem d_M_beginNode_354 : decode b_M_beginNode 354 = .ok (.iadd, 1) := by decide +kernel
theorem d_M_beginNode_355 : decode b_M_beginNode 355 = .ok (.iastore, 1) := by decide +kernel
theorem d_M_beginNode_356 : decode b_M_beginNode 356 = .ok (.aload_n 0, 1) := by decide +kernel
theorem d_M_beginNode_357 : decode b_M_beginNode 357 = .ok (.bipush (7), 2) := by decide +kernel
theorem d_M_beginNode_359 : decode b_M_beginNode 359 = .ok (.iload_n 3, 1) := by decide +kernel
theorem d_M_beginNode_360 : decode b_M_beginNode 360 = .ok (.iload 5, 2) := by decide +kernel
theorem d_M_beginNode_362 : decode b_M_beginNode 362 = .ok (.invokestatic 155, 3) := by decide +kernel
theorem d_M_beginNode_365 : decode b_M_beginNode 365 = .ok (.isub, 1) := by decide +kernel
theorem d_M_beginNode_366 : decode b_M_beginNode 366 = .ok (.iload 5, 2) := by decide +kernel
theorem d_M_beginNode_368 : decode b_M_beginNode 368 = .ok (.aload_n 0, 1) := by decide +kernel
theorem d_M_beginNode_369 : decode b_M_beginNode 369 = .ok (.iload_n 1, 1) := by decide +kernel
theorem d_M_beginNode_370 : decode b_M_beginNode 370 = .ok (.invokevirtual 201, 3) := by decide +kernel
theorem d_M_beginNode_373 : decode b_M_beginNode 373 = .ok (.invokevirtual 213, 3) := by decide +kernel
theorem d_M_beginNode_376 : decode b_M_beginNode 376 = .ok (.goto (162), 3) := by decide +kernel
theorem d_M_beginNode_379 : decode b_M_beginNode 379 = .ok (.aload_n 0, 1) := by decide +kernel
theorem d_M_beginNode_380 : decode b_M_beginNode 380 = .ok (.invokevirtual 204, 3) := by decide +kernel
theorem d_M_beginNode_383 : decode b_M_beginNode 383 = .ok (.goto (155), 3) := by decide +kernel
theorem d_M_beginNode_386 : decode b_M_beginNode 386 = .ok (.aload_n 0, 1) := by decide +kernel
theorem d_M_beginNode_387 : decode b_M_beginNode 387 = .ok (.invokevirtual 204, 3) := by decide +kernel
theorem d_M_beginNode_390 : decode b_M_beginNode 390 = .ok (.iconst 0, 1) := by decide +kernel
theorem d_M_beginNode_391 : decode b_M_beginNode 391 = .ok (.istore 6, 2) := by decide +kernel
theorem d_M_beginNode_393 : decode b_M_beginNode 393 = .ok (.iload 6, 2) := by decide +kernel
theorem d_M_beginNode_395 : decode b_M_beginNode 395 = .ok (.aload_n 0, 1) := by decide +kernel
theorem d_M_beginNode_396 : decode b_M_beginNode 396 = .ok (.getfield 16, 3) := by decide +kernel
theorem d_M_beginNode_399 : decode b_M_beginNode 399 = .ok (.iload_n 1, 1) := by decide +kernel
theorem d_M_beginNode_400 : decode b_M_beginNode 400 = .ok (.iaload, 1) := by decide +kernel
theorem d_M_beginNode_401 : decode b_M_beginNode 401 = .ok (.if_icmp .ge (15), 3) := by decide +kernel
theorem d_M_beginNode_404 : decode b_M_beginNode 404 = .ok (.aload_n 0, 1) := by decide +kernel
theorem d_M_beginNode_405 : decode b_M_beginNode 405 = .ok (.bipush (61), 2) := by decide +kernel
theorem d_M_beginNode_407 : decode b_M_beginNode 407 = .ok (.invokevirtual 220, 3) := by decide +kernel
theorem d_M_beginNode_410 : decode b_M_beginNode 410 = .ok (.iinc 6 (1), 3) := by decide +kernel
theorem d_M_beginNode_413 : decode b_M_beginNode 413 = .ok (.goto (-20), 3) := by decide +kernel
theorem d_M_beginNode_416 : decode b_M_beginNode 416 = .ok (.aload_n 0, 1) := by decide +kernel
theorem d_M_beginNode_417 : decode b_M_beginNode 417 = .ok (.invokevirtual 195, 3) := by decide +kernel
theorem d_M_beginNode_420 : decode b_M_beginNode 420 = .ok (.goto (118), 3) := by decide +kernel
theorem d_M_beginNode_423 : decode b_M_beginNode 423 = .ok (.aload_n 0, 1) := by decide +kernel
theorem d_M_beginNode_424 : decode b_M_beginNode 424 = .ok (.invokevirtual 204, 3) := by decide +kernel
theorem d_M_beginNode_427 : decode b_M_beginNode 427 = .ok (.iconst 0, 1) := by decide +kernel
theorem d_M_beginNode_428 : decode b_M_beginNode 428 = .ok (.istore 6, 2) := by decide +kernel
theorem d_M_beginNode_430 : decode b_M_beginNode 430 = .ok (.iload 6, 2) := by decide +kernel
theorem d_M_beginNode_432 : decode b_M_beginNode 432 = .ok (.aload_n 0, 1) := by decide +kernel
theorem d_M_beginNode_433 : decode b_M_beginNode 433 = .ok (.getfield 189, 3) := by decide +kernel
theorem d_M_beginNode_436 : decode b_M_beginNode 436 = .ok (.if_icmp .ge (18), 3) := by decide +kernel
theorem d_M_beginNode_439 : decode b_M_beginNode 439 = .ok (.aload_n 0, 1) := by decide +kernel
theorem d_M_beginNode_440 : decode b_M_beginNode 440 = .ok (.getfield 88, 3) := by decide +kernel
theorem d_M_beginNode_443 : decode b_M_beginNode 443 = .ok (.iload 6, 2) := by decide +kernel
theorem d_M_beginNode_445 : decode b_M_beginNode 445 = .ok (.bipush (45), 2) := by decide +kernel
theorem d_M_beginNode_447 : decode b_M_beginNode 447 = .ok (.iastore, 1) := by decide +kernel
theorem d_M_beginNode_448 : decode b_M_beginNode 448 = .ok (.iinc 6 (1), 3) := by decide +kernel
theorem d_M_beginNode_451 : decode b_M_beginNode 451 = .ok (.goto (-21), 3) := by decide +kernel
theorem d_M_beginNode_454 : decode b_M_beginNode 454 = .ok (.aload_n 0, 1) := by decide +kernel
theorem d_M_beginNode_455 : decode b_M_beginNode 455 = .ok (.aload_n 0, 1) := by decide +kernel
theorem d_M_beginNode_456 : decode b_M_beginNode 456 = .ok (.getfield 189, 3) := by decide +kernel
theorem d_M_beginNode_459 : decode b_M_beginNode 459 = .ok (.putfield 179, 3) := by decide +kernel
theorem d_M_beginNode_462 : decode b_M_beginNode 462 = .ok (.aload_n 0, 1) := by decide +kernel
theorem d_M_beginNode_463 : decode b_M_beginNode 463 = .ok (.invokevirtual 210, 3) := by decide +kernel
theorem d_M_beginNode_466 : decode b_M_beginNode 466 = .ok (.goto (72), 3) := by decide +kernel
theorem d_M_beginNode_469 : decode b_M_beginNode 469 = .ok (.aload_n 0, 1) := by decide +kernel
theorem d_M_beginNode_470 : decode b_M_beginNode 470 = .ok (.iload_n 1, 1) := by decide +kernel
theorem d_M_beginNode_471 : decode b_M_beginNode 471 = .ok (.invokevirtual 223, 3) := by decide +kernel
theorem d_M_beginNode_474 : decode b_M_beginNode 474 = .ok (.goto (64), 3) := by decide +kernel
theorem d_M_beginNode_477 : decode b_M_beginNode 477 = .ok (.aload_n 0, 1) := by decide +kernel
theorem d_M_beginNode_478 : decode b_M_beginNode 478 = .ok (.invokevirtual 195, 3) := by decide +kernel
theorem d_M_beginNode_481 : decode b_M_beginNode 481 = .ok (.aload_n 0, 1) := by decide +kernel
theorem d_M_beginNode_482 : decode b_M_beginNode 482 = .ok (.invokevirtual 192, 3) := by decide +kernel
theorem d_M_beginNode_485 : decode b_M_beginNode 485 = .ok (.goto (53), 3) := by decide +kernel
theorem d_M_beginNode_488 : decode b_M_beginNode 488 = .ok (.iconst 0, 1) := by decide +kernel
theorem d_M_beginNode_489 : decode b_M_beginNode 489 = .ok (.istore 6, 2) := by decide +kernel
theorem d_M_beginNode_491 : decode b_M_beginNode 491 = .ok (.iload 6, 2) := by decide +kernel
theorem d_M_beginNode_493 : decode b_M_beginNode 493 = .ok (.aload_n 0, 1) := by decide +kernel
theorem d_M_beginNode_494 : decode b_M_beginNode 494 = .ok (.getfield 25, 3) := by decide +kernel
theorem d_M_beginNode_497 : decode b_M_beginNode 497 = .ok (.iload_n 1, 1) := by decide +kernel
theorem d_M_beginNode_498 : decode b_M_beginNode 498 = .ok (.iaload, 1) := by decide +kernel
theorem d_M_beginNode_499 : decode b_M_beginNode 499 = .ok (.if_icmp .ge (36), 3) := by decide +kernel
theorem d_M_beginNode_502 : decode b_M_beginNode 502 = .ok (.iload 4, 2) := by decide +kernel
theorem d_M_beginNode_504 : decode b_M_beginNode 504 = .ok (.ifCond .ne (31), 3) := by decide +kernel
theorem d_M_beginNode_507 : decode b_M_beginNode 507 = .ok (.aload_n 0, 1) := by decide +kernel
theorem d_M_beginNode_508 : decode b_M_beginNode 508 = .ok (.aload_n 0, 1) := by decide +kernel
theorem d_M_beginNode_509 : decode b_M_beginNode 509 = .ok (.getfield 31, 3) := by decide +kernel
theorem d_M_beginNode_512 : decode b_M_beginNode 512 = .ok (.aload_n 0, 1) := by decide +kernel
theorem d_M_beginNode_513 : decode b_M_beginNode 513 = .ok (.getfield 22, 3) := by decide +kernel
theorem d_M_beginNode_516 : decode b_M_beginNode 516 = .ok (.iload_n 1, 1) := by decide +kernel
theorem d_M_beginNode_517 : decode b_M_beginNode 517 = .ok (.iaload, 1) := by decide +kernel
theorem d_M_beginNode_518 : decode b_M_beginNode 518 = .ok (.iload 6, 2) := by decide +kernel
theorem d_M_beginNode_520 : decode b_M_beginNode 520 = .ok (.iadd, 1) := by decide +kernel
theorem d_M_beginNode_521 : decode b_M_beginNode 521 = .ok (.baload, 1) := by decide +kernel
theorem d_M_beginNode_522 : decode b_M_beginNode 522 = .ok (.sipush (255), 3) := by decide +kernel
theorem d_M_beginNode_525 : decode b_M_beginNode 525 = .ok (.iand, 1) := by decide +kernel
theorem d_M_beginNode_526 : decode b_M_beginNode 526 = .ok (.invokevirtual 220, 3) := by decide +kernel
theorem d_M_beginNode_529 : decode b_M_beginNode 529 = .ok (.iinc 6 (1), 3) := by decide +kernel
theorem d_M_beginNode_532 : decode b_M_beginNode 532 = .ok (.goto (-41), 3) := by decide +kernel
theorem d_M_beginNode_535 : decode b_M_beginNode 535 = .ok (.goto (3), 3) := by decide +kernel
theorem d_M_beginNode_538 : decode b_M_beginNode 538 = .ok (.return_, 1) := by decide +kernel
theorem d_M_endNode_0 : decode b_M_endNode 0 = .ok (.aload_n 0, 1) := by decide +kernel
theorem d_M_endNode_1 : decode b_M_endNode 1 = .ok (.getfield 7, 3) := by decide +kernel
theorem d_M_endNode_4 : decode b_M_endNode 4 = .ok (.iload_n 1, 1) := by decide +kernel
theorem d_M_endNode_5 : decode b_M_endNode 5 = .ok (.iaload, 1) := by decide +kernel
theorem d_M_endNode_6 : decode b_M_endNode 6 = .ok (.istore_n 2, 1) := by decide +kernel
theorem d_M_endNode_7 : decode b_M_endNode 7 = .ok (.iload_n 2, 1) := by decide +kernel
theorem d_M_endNode_8 : decode b_M_endNode 8 = .ok (.ifCond .eq (8), 3) := by decide +kernel
theorem d_M_endNode_11 : decode b_M_endNode 11 = .ok (.iload_n 2, 1) := by decide +kernel
theorem d_M_endNode_12 : decode b_M_endNode 12 = .ok (.iconst 1, 1) := by decide +kernel
theorem d_M_endNode_13 : decode b_M_endNode 13 = .ok (.if_icmp .ne (44), 3) := by decide +kernel
theorem d_M_endNode_16 : decode b_M_endNode 16 = .ok (.aload_n 0, 1) := by decide +kernel
theorem d_M_endNode_17 : decode b_M_endNode 17 = .ok (.invokevirtual 210, 3) := by decide +kernel
theorem d_M_endNode_20 : decode b_M_endNode 20 = .ok (.iload_n 2, 1) := by decide +kernel
theorem d_M_endNode_21 : decode b_M_endNode 21 = .ok (.iconst 1, 1) := by decide +kernel
theorem d_M_endNode_22 : decode b_M_endNode 22 = .ok (.if_icmp .ne (35), 3) := by decide +kernel
theorem d_M_endNode_25 : decode b_M_endNode 25 = .ok (.aload_n 0, 1) := by decide +kernel
theorem d_M_endNode_26 : decode b_M_endNode 26 = .ok (.getfield 162, 3) := by decide +kernel
theorem d_M_endNode_29 : decode b_M_endNode 29 = .ok (.ifCond .ne (28), 3) := by decide +kernel
theorem d_M_endNode_32 : decode b_M_endNode 32 = .ok (.aload_n 0, 1) := by decide +kernel
theorem d_M_endNode_33 : decode b_M_endNode 33 = .ok (.getfield 176, 3) := by decide +kernel
theorem d_M_endNode_36 : decode b_M_endNode 36 = .ok (.ifCond .lt (21), 3) := by decide +kernel
theorem d_M_endNode_39 : decode b_M_endNode 39 = .ok (.aload_n 0, 1) := by decide +kernel
theorem d_M_endNode_40 : decode b_M_endNode 40 = .ok (.getfield 38, 3) := by decide +kernel
theorem d_M_endNode_43 : decode b_M_endNode 43 = .ok (.aload_n 0, 1) := by decide +kernel
theorem d_M_endNode_44 : decode b_M_endNode 44 = .ok (.getfield 176, 3) := by decide +kernel
theorem d_M_endNode_47 : decode b_M_endNode 47 = .ok (.aload_n 0, 1) := by decide +kernel
theorem d_M_endNode_48 : decode b_M_endNode 48 = .ok (.getfield 159, 3) := by decide +kernel
theorem d_M_endNode_51 : decode b_M_endNode 51 = .ok (.aload_n 0, 1) := by decide +kernel
theorem d_M_endNode_52 : decode b_M_endNode 52 = .ok (.getfield 176, 3) := by decide +kernel
theorem d_M_endNode_55 : decode b_M_endNode 55 = .ok (.isub, 1) := by decide +kernel
theorem d_M_endNode_56 : decode b_M_endNode 56 = .ok (.iastore, 1) := by decide +kernel
theorem d_M_endNode_57 : decode b_M_endNode 57 = .ok (.iload_n 2, 1) := by decide +kernel
theorem d_M_endNode_58 : decode b_M_endNode 58 = .ok (.bipush (7), 2) := by decide +kernel
theorem d_M_endNode_60 : decode b_M_endNode 60 = .ok (.if_icmp .ne (43), 3) := by decide +kernel
theorem d_M_endNode_63 : decode b_M_endNode 63 = .ok (.aload_n 0, 1) := by decide +kernel
theorem d_M_endNode_64 : decode b_M_endNode 64 = .ok (.getfield 198, 3) := by decide +kernel
theorem d_M_endNode_67 : decode b_M_endNode 67 = .ok (.ifCond .eq (7), 3) := by decide +kernel
theorem d_M_endNode_70 : decode b_M_endNode 70 = .ok (.aload_n 0, 1) := by decide +kernel
theorem d_M_endNode_71 : decode b_M_endNode 71 = .ok (.invokevirtual 210, 3) := by decide +kernel
theorem d_M_endNode_74 : decode b_M_endNode 74 = .ok (.aload_n 0, 1) := by decide +kernel
theorem d_M_endNode_75 : decode b_M_endNode 75 = .ok (.getfield 73, 3) := by decide +kernel
theorem d_M_endNode_78 : decode b_M_endNode 78 = .ok (.aload_n 0, 1) := by decide +kernel
theorem d_M_endNode_79 : decode b_M_endNode 79 = .ok (.getfield 166, 3) := by decide +kernel
theorem d_M_endNode_82 : decode b_M_endNode 82 = .ok (.iconst 1, 1) := by decide +kernel
theorem d_M_endNode_83 : decode b_M_endNode 83 = .ok (.isub, 1) := by decide +kernel
theorem d_M_endNode_84 : decode b_M_endNode 84 = .ok (.baload, 1) := by decide +kernel
theorem d_M_endNode_85 : decode b_M_endNode 85 = .ok (.ifCond .eq (18), 3) := by decide +kernel
theorem d_M_endNode_88 : decode b_M_endNode 88 = .ok (.aload_n 0, 1) := by decide +kernel
theorem d_M_endNode_89 : decode b_M_endNode 89 = .ok (.iconst (-1), 1) := by decide +kernel
theorem d_M_endNode_90 : decode b_M_endNode 90 = .ok (.putfield 176, 3) := by decide +kernel
theorem d_M_endNode_93 : decode b_M_endNode 93 = .ok (.aload_n 0, 1) := by decide +kernel
theorem d_M_endNode_94 : decode b_M_endNode 94 = .ok (.aload_n 0, 1) := by decide +kernel
theorem d_M_endNode_95 : decode b_M_endNode 95 = .ok (.getfield 85, 3) := by decide +kernel
theorem d_M_endNode_98 : decode b_M_endNode 98 = .ok (.iconst 0, 1) := by decide +kernel
theorem d_M_endNode_99 : decode b_M_endNode 99 = .ok (.iconst 0, 1) := by decide +kernel
theorem d_M_endNode_100 : decode b_M_endNode 100 = .ok (.invokevirtual 182, 3) := by decide +kernel
theorem d_M_endNode_103 : decode b_M_endNode 103 = .ok (.iload_n 2, 1) := by decide +kernel
theorem d_M_endNode_104 : decode b_M_endNode 104 = .ok (.bipush (11), 2) := by decide +kernel
theorem d_M_endNode_106 : decode b_M_endNode 106 = .ok (.if_icmp .eq (14), 3) := by decide +kernel
theorem d_M_endNode_109 : decode b_M_endNode 109 = .ok (.iload_n 2, 1) := by decide +kernel
theorem d_M_endNode_110 : decode b_M_endNode 110 = .ok (.iconst 4, 1) := by decide +kernel
theorem d_M_endNode_111 : decode b_M_endNode 111 = .ok (.if_icmp .lt (19), 3) := by decide +kernel
theorem d_M_endNode_114 : decode b_M_endNode 114 = .ok (.iload_n 2, 1) := by decide +kernel
theorem d_M_endNode_115 : decode b_M_endNode 115 = .ok (.bipush (7), 2) := by decide +kernel
theorem d_M_endNode_117 : decode b_M_endNode 117 = .ok (.if_icmp .gt (13), 3) := by decide +kernel
theorem d_M_endNode_120 : decode b_M_endNode 120 = .ok (.aload_n 0, 1) := by decide +kernel
theorem d_M_endNode_121 : decode b_M_endNode 121 = .ok (.dup, 1) := by decide +kernel
theorem d_M_endNode_122 : decode b_M_endNode 122 = .ok (.getfield 166, 3) := by decide +kernel
theorem d_M_endNode_125 : decode b_M_endNode 125 = .ok (.iconst 1, 1) := by decide +kernel
theorem d_M_endNode_126 : decode b_M_endNode 126 = .ok (.isub, 1) := by decide +kernel
theorem d_M_endNode_127 : decode b_M_endNode 127 = .ok (.putfield 166, 3) := by decide +kernel
theorem d_M_endNode_130 : decode b_M_endNode 130 = .ok (.return_, 1) := by decide +kernel
theorem d_M_layOut_0 : decode b_M_layOut 0 = .ok (.aload_n 0, 1) := by decide +kernel
theorem d_M_layOut_1 : decode b_M_layOut 1 = .ok (.iconst 0, 1) := by decide +kernel
theorem d_M_layOut_2 : decode b_M_layOut 2 = .ok (.putfield 159, 3) := by decide +kernel
theorem d_M_layOut_5 : decode b_M_layOut 5 = .ok (.aload_n 0, 1) := by decide +kernel
theorem d_M_layOut_6 : decode b_M_layOut 6 = .ok (.iconst 0, 1) := by decide +kernel
theorem d_M_layOut_7 : decode b_M_layOut 7 = .ok (.putfield 166, 3) := by decide +kernel
theorem d_M_layOut_10 : decode b_M_layOut 10 = .ok (.aload_n 0, 1) := by decide +kernel
theorem d_M_layOut_11 : decode b_M_layOut 11 = .ok (.iconst 0, 1) := by decide +kernel
theorem d_M_layOut_12 : decode b_M_layOut 12 = .ok (.putfield 198, 3) := by decide +kernel
theorem d_M_layOut_15 : decode b_M_layOut 15 = .ok (.aload_n 0, 1) := by decide +kernel
theorem d_M_layOut_16 : decode b_M_layOut 16 = .ok (.iconst (-1), 1) := by decide +kernel
theorem d_M_layOut_17 : decode b_M_layOut 17 = .ok (.putfield 176, 3) := by decide +kernel
theorem d_M_layOut_20 : decode b_M_layOut 20 = .ok (.aload_n 0, 1) := by decide +kernel
theorem d_M_layOut_21 : decode b_M_layOut 21 = .ok (.iconst 0, 1) := by decide +kernel
theorem d_M_layOut_22 : decode b_M_layOut 22 = .ok (.putfield 186, 3) := by decide +kernel
theorem d_M_layOut_25 : decode b_M_layOut 25 = .ok (.aload_n 0, 1) := by decide +kernel
theorem d_M_layOut_26 : decode b_M_layOut 26 = .ok (.iconst 0, 1) := by decide +kernel
theorem d_M_layOut_27 : decode b_M_layOut 27 = .ok (.putfield 179, 3) := by decide +kernel
theorem d_M_layOut_30 : decode b_M_layOut 30 = .ok (.iconst (-1), 1) := by decide +kernel
theorem d_M_layOut_31 : decode b_M_layOut 31 = .ok (.istore_n 1, 1) := by decide +kernel
theorem d_M_layOut_32 : decode b_M_layOut 32 = .ok (.iconst 0, 1) := by decide +kernel
theorem d_M_layOut_33 : decode b_M_layOut 33 = .ok (.istore_n 2, 1) := by decide +kernel
theorem d_M_layOut_34 : decode b_M_layOut 34 = .ok (.iload_n 2, 1) := by decide +kernel
theorem d_M_layOut_35 : decode b_M_layOut 35 = .ok (.aload_n 0, 1) := by decide +kernel
theorem d_M_layOut_36 : decode b_M_layOut 36 = .ok (.getfield 101, 3) := by decide +kernel
theorem d_M_layOut_39 : decode b_M_layOut 39 = .ok (.if_icmp .gt (76), 3) := by decide +kernel
theorem d_M_layOut_42 : decode b_M_layOut 42 = .ok (.aload_n 0, 1) := by decide +kernel
theorem d_M_layOut_43 : decode b_M_layOut 43 = .ok (.getfield 159, 3) := by decide +kernel
theorem d_M_layOut_46 : decode b_M_layOut 46 = .ok (.sipush (1500), 3) := by decide +kernel
theorem d_M_layOut_49 : decode b_M_layOut 49 = .ok (.if_icmp .gt (66), 3) := by decide +kernel
theorem d_M_layOut_52 : decode b_M_layOut 52 = .ok (.iload_n 2, 1) := by decide +kernel
theorem d_M_layOut_53 : decode b_M_layOut 53 = .ok (.aload_n 0, 1) := by decide +kernel
theorem d_M_layOut_54 : decode b_M_layOut 54 = .ok (.getfield 101, 3) := by decide +kernel
theorem d_M_layOut_57 : decode b_M_layOut 57 = .ok (.if_icmp .ge (12), 3) := by decide +kernel
theorem d_M_layOut_60 : decode b_M_layOut 60 = .ok (.aload_n 0, 1) := by decide +kernel
theorem d_M_layOut_61 : decode b_M_layOut 61 = .ok (.getfield 13, 3) := by decide +kernel
theorem d_M_layOut_64 : decode b_M_layOut 64 = .ok (.iload_n 2, 1) := by decide +kernel
theorem d_M_layOut_65 : decode b_M_layOut 65 = .ok (.iaload, 1) := by decide +kernel
theorem d_M_layOut_66 : decode b_M_layOut 66 = .ok (.goto (4), 3) := by decide +kernel
theorem d_M_layOut_69 : decode b_M_layOut 69 = .ok (.iconst (-1), 1) := by decide +kernel
theorem d_M_layOut_70 : decode b_M_layOut 70 = .ok (.istore_n 3, 1) := by decide +kernel
theorem d_M_layOut_71 : decode b_M_layOut 71 = .ok (.iload_n 1, 1) := by decide +kernel
theorem d_M_layOut_72 : decode b_M_layOut 72 = .ok (.iload_n 3, 1) := by decide +kernel
theorem d_M_layOut_73 : decode b_M_layOut 73 = .ok (.if_icmp .eq (18), 3) := by decide +kernel
theorem d_M_layOut_76 : decode b_M_layOut 76 = .ok (.aload_n 0, 1) := by decide +kernel
theorem d_M_layOut_77 : decode b_M_layOut 77 = .ok (.iload_n 1, 1) := by decide +kernel
theorem d_M_layOut_78 : decode b_M_layOut 78 = .ok (.invokevirtual 226, 3) := by decide +kernel
theorem d_M_layOut_81 : decode b_M_layOut 81 = .ok (.aload_n 0, 1) := by decide +kernel
theorem d_M_layOut_82 : decode b_M_layOut 82 = .ok (.getfield 13, 3) := by decide +kernel
theorem d_M_layOut_85 : decode b_M_layOut 85 = .ok (.iload_n 1, 1) := by decide +kernel
theorem d_M_layOut_86 : decode b_M_layOut 86 = .ok (.iaload, 1) := by decide +kernel
theorem d_M_layOut_87 : decode b_M_layOut 87 = .ok (.istore_n 1, 1) := by decide +kernel
theorem d_M_layOut_88 : decode b_M_layOut 88 = .ok (.goto (-17), 3) := by decide +kernel
theorem d_M_layOut_91 : decode b_M_layOut 91 = .ok (.iload_n 2, 1) := by decide +kernel
theorem d_M_layOut_92 : decode b_M_layOut 92 = .ok (.aload_n 0, 1) := by decide +kernel
theorem d_M_layOut_93 : decode b_M_layOut 93 = .ok (.getfield 101, 3) := by decide +kernel
theorem d_M_layOut_96 : decode b_M_layOut 96 = .ok (.if_icmp .ne (6), 3) := by decide +kernel
theorem d_M_layOut_99 : decode b_M_layOut 99 = .ok (.goto (10), 3) := by decide +kernel
theorem d_M_layOut_102 : decode b_M_layOut 102 = .ok (.aload_n 0, 1) := by decide +kernel
theorem d_M_layOut_103 : decode b_M_layOut 103 = .ok (.iload_n 2, 1) := by decide +kernel
theorem d_M_layOut_104 : decode b_M_layOut 104 = .ok (.invokevirtual 229, 3) := by decide +kernel
theorem d_M_layOut_107 : decode b_M_layOut 107 = .ok (.iload_n 2, 1) := by decide +kernel
theorem d_M_layOut_108 : decode b_M_layOut 108 = .ok (.istore_n 1, 1) := by decide +kernel
theorem d_M_layOut_109 : decode b_M_layOut 109 = .ok (.iinc 2 (1), 3) := by decide +kernel
theorem d_M_layOut_112 : decode b_M_layOut 112 = .ok (.goto (-78), 3) := by decide +kernel
theorem d_M_layOut_115 : decode b_M_layOut 115 = .ok (.return_, 1) := by decide +kernel
theorem d_M_paginate_0 : decode b_M_paginate 0 = .ok (.iconst 0, 1) := by decide +kernel
theorem d_M_paginate_1 : decode b_M_paginate 1 = .ok (.istore_n 1, 1) := by decide +kernel
theorem d_M_paginate_2 : decode b_M_paginate 2 = .ok (.iconst 0, 1) := by decide +kernel
theorem d_M_paginate_3 : decode b_M_paginate 3 = .ok (.istore_n 2, 1) := by decide +kernel
theorem d_M_paginate_4 : decode b_M_paginate 4 = .ok (.iconst 0, 1) := by decide +kernel
theorem d_M_paginate_5 : decode b_M_paginate 5 = .ok (.istore_n 3, 1) := by decide +kernel
theorem d_M_paginate_6 : decode b_M_paginate 6 = .ok (.iconst 0, 1) := by decide +kernel
theorem d_M_paginate_7 : decode b_M_paginate 7 = .ok (.istore 4, 2) := by decide +kernel
theorem d_M_paginate_9 : decode b_M_paginate 9 = .ok (.iload 4, 2) := by decide +kernel
theorem d_M_paginate_11 : decode b_M_paginate 11 = .ok (.aload_n 0, 1) := by decide +kernel
theorem d_M_paginate_12 : decode b_M_paginate 12 = .ok (.getfield 113, 3) := by decide +kernel
theorem d_M_paginate_15 : decode b_M_paginate 15 = .ok (.if_icmp .ge (174), 3) := by decide +kernel
theorem d_M_paginate_18 : decode b_M_paginate 18 = .ok (.aload_n 0, 1) := by decide +kernel
theorem d_M_paginate_19 : decode b_M_paginate 19 = .ok (.getfield 41, 3) := by decide +kernel
theorem d_M_paginate_22 : decode b_M_paginate 22 = .ok (.iload 4, 2) := by decide +kernel
theorem d_M_paginate_24 : decode b_M_paginate 24 = .ok (.iconst (-1), 1) := by decide +kernel
theorem d_M_paginate_25 : decode b_M_paginate 25 = .ok (.iastore, 1) := by decide +kernel
theorem d_M_paginate_26 : decode b_M_paginate 26 = .ok (.aload_n 0, 1) := by decide +kernel
theorem d_M_paginate_27 : decode b_M_paginate 27 = .ok (.getfield 44, 3) := by decide +kernel
theorem d_M_paginate_30 : decode b_M_paginate 30 = .ok (.iload 4, 2) := by decide +kernel
theorem d_M_paginate_32 : decode b_M_paginate 32 = .ok (.iconst (-1), 1) := by decide +kernel
theorem d_M_paginate_33 : decode b_M_paginate 33 = .ok (.iastore, 1) := by decide +kernel
theorem d_M_paginate_34 : decode b_M_paginate 34 = .ok (.iload_n 2, 1) := by decide +kernel
theorem d_M_paginate_35 : decode b_M_paginate 35 = .ok (.aload_n 0, 1) := by decide +kernel
theorem d_M_paginate_36 : decode b_M_paginate 36 = .ok (.getfield 116, 3) := by decide +kernel
theorem d_M_paginate_39 : decode b_M_paginate 39 = .ok (.if_icmp .ne (8), 3) := by decide +kernel
theorem d_M_paginate_42 : decode b_M_paginate 42 = .ok (.iinc 1 (1), 3) := by decide +kernel
theorem d_M_paginate_45 : decode b_M_paginate 45 = .ok (.iconst 0, 1) := by decide +kernel
theorem d_M_paginate_46 : decode b_M_paginate 46 = .ok (.istore_n 2, 1) := by decide +kernel
theorem d_M_paginate_47 : decode b_M_paginate 47 = .ok (.iload_n 2, 1) := by decide +kernel
theorem d_M_paginate_48 : decode b_M_paginate 48 = .ok (.ifCond .ne (16), 3) := by decide +kernel
theorem d_M_paginate_51 : decode b_M_paginate 51 = .ok (.aload_n 0, 1) := by decide +kernel
theorem d_M_paginate_52 : decode b_M_paginate 52 = .ok (.getfield 35, 3) := by decide +kernel
theorem d_M_paginate_55 : decode b_M_paginate 55 = .ok (.iload 4, 2) := by decide +kernel
theorem d_M_paginate_57 : decode b_M_paginate 57 = .ok (.iaload, 1) := by decide +kernel
theorem d_M_paginate_58 : decode b_M_paginate 58 = .ok (.ifCond .ne (6), 3) := by decide +kernel
theorem d_M_paginate_61 : decode b_M_paginate 61 = .ok (.goto (122), 3) := by decide +kernel
theorem d_M_paginate_64 : decode b_M_paginate 64 = .ok (.aload_n 0, 1) := by decide +kernel
theorem d_M_paginate_65 : decode b_M_paginate 65 = .ok (.getfield 38, 3) := by decide +kernel
theorem d_M_paginate_68 : decode b_M_paginate 68 = .ok (.iload 4, 2) := by decide +kernel
theorem d_M_paginate_70 : decode b_M_paginate 70 = .ok (.iaload, 1) := by decide +kernel
theorem d_M_paginate_71 : decode b_M_paginate 71 = .ok (.ifCond .le (91), 3) := by decide +kernel
theorem d_M_paginate_74 : decode b_M_paginate 74 = .ok (.iload_n 2, 1) := by decide +kernel
theorem d_M_paginate_75 : decode b_M_paginate 75 = .ok (.ifCond .le (87), 3) := by decide +kernel
theorem d_M_paginate_78 : decode b_M_paginate 78 = .ok (.iload 4, 2) := by decide +kernel
theorem d_M_paginate_80 : decode b_M_paginate 80 = .ok (.aload_n 0, 1) := by decide +kernel
theorem d_M_paginate_81 : decode b_M_paginate 81 = .ok (.getfield 38, 3) := by decide +kernel
theorem d_M_paginate_84 : decode b_M_paginate 84 = .ok (.iload 4, 2) := by decide +kernel
theorem d_M_paginate_86 : decode b_M_paginate 86 = .ok (.iaload, 1) := by decide +kernel
theorem d_M_paginate_87 : decode b_M_paginate 87 = .ok (.iadd, 1) := by decide +kernel
theorem d_M_paginate_88 : decode b_M_paginate 88 = .ok (.istore 5, 2) := by decide +kernel
theorem d_M_paginate_90 : decode b_M_paginate 90 = .ok (.iload 5, 2) := by decide +kernel
theorem d_M_paginate_92 : decode b_M_paginate 92 = .ok (.aload_n 0, 1) := by decide +kernel
theorem d_M_paginate_93 : decode b_M_paginate 93 = .ok (.getfield 113, 3) := by decide +kernel
theorem d_M_paginate_96 : decode b_M_paginate 96 = .ok (.if_icmp .ge (19), 3) := by decide +kernel
theorem d_M_paginate_99 : decode b_M_paginate 99 = .ok (.aload_n 0, 1) := by decide +kernel
theorem d_M_paginate_100 : decode b_M_paginate 100 = .ok (.getfield 35, 3) := by decide +kernel
theorem d_M_paginate_103 : decode b_M_paginate 103 = .ok (.iload 5, 2) := by decide +kernel
theorem d_M_paginate_105 : decode b_M_paginate 105 = .ok (.iaload, 1) := by decide +kernel
theorem d_M_paginate_106 : decode b_M_paginate 106 = .ok (.ifCond .ne (9), 3) := by decide +kernel
theorem d_M_paginate_109 : decode b_M_paginate 109 = .ok (.iinc 5 (1), 3) := by decide +kernel
theorem d_M_paginate_112 : decode b_M_paginate 112 = .ok (.goto (-22), 3) := by decide +kernel
theorem d_M_paginate_115 : decode b_M_paginate 115 = .ok (.iload 5, 2) := by decide +kernel
theorem d_M_paginate_117 : decode b_M_paginate 117 = .ok (.iload 4, 2) := by decide +kernel
theorem d_M_paginate_119 : decode b_M_paginate 119 = .ok (.isub, 1) := by decide +kernel
theorem d_M_paginate_120 : decode b_M_paginate 120 = .ok (.iload 5, 2) := by decide +kernel
theorem d_M_paginate_122 : decode b_M_paginate 122 = .ok (.aload_n 0, 1) := by decide +kernel
theorem d_M_paginate_123 : decode b_M_paginate 123 = .ok (.getfield 113, 3) := by decide +kernel
theorem d_M_paginate_126 : decode b_M_paginate 126 = .ok (.if_icmp .ge (7), 3) := by decide +kernel
theorem d_M_paginate_129 : decode b_M_paginate 129 = .ok (.iconst 1, 1) := by decide +kernel
theorem d_M_paginate_130 : decode b_M_paginate 130 = .ok (.goto (4), 3) := by decide +kernel
theorem d_M_paginate_133 : decode b_M_paginate 133 = .ok (.iconst 0, 1) := by decide +kernel
theorem d_M_paginate_134 : decode b_M_paginate 134 = .ok (.iadd, 1) := by decide +kernel
theorem d_M_paginate_135 : decode b_M_paginate 135 = .ok (.istore 6, 2) := by decide +kernel
theorem d_M_paginate_137 : decode b_M_paginate 137 = .ok (.iload 6, 2) := by decide +kernel
theorem d_M_paginate_139 : decode b_M_paginate 139 = .ok (.aload_n 0, 1) := by decide +kernel
theorem d_M_paginate_140 : decode b_M_paginate 140 = .ok (.getfield 116, 3) := by decide +kernel
theorem d_M_paginate_143 : decode b_M_paginate 143 = .ok (.if_icmp .gt (19), 3) := by decide +kernel
theorem d_M_paginate_146 : decode b_M_paginate 146 = .ok (.iload 6, 2) := by decide +kernel
theorem d_M_paginate_148 : decode b_M_paginate 148 = .ok (.aload_n 0, 1) := by decide +kernel
theorem d_M_paginate_149 : decode b_M_paginate 149 = .ok (.getfield 116, 3) := by decide +kernel
theorem d_M_paginate_152 : decode b_M_paginate 152 = .ok (.iload_n 2, 1) := by decide +kernel
theorem d_M_paginate_153 : decode b_M_paginate 153 = .ok (.isub, 1) := by decide +kernel
theorem d_M_paginate_154 : decode b_M_paginate 154 = .ok (.if_icmp .le (8), 3) := by decide +kernel
theorem d_M_paginate_157 : decode b_M_paginate 157 = .ok (.iinc 1 (1), 3) := by decide +kernel
theorem d_M_paginate_160 : decode b_M_paginate 160 = .ok (.iconst 0, 1) := by decide +kernel
theorem d_M_paginate_161 : decode b_M_paginate 161 = .ok (.istore_n 2, 1) := by decide +kernel
theorem d_M_paginate_162 : decode b_M_paginate 162 = .ok (.aload_n 0, 1) := by decide +kernel
theorem d_M_paginate_163 : decode b_M_paginate 163 = .ok (.getfield 41, 3) := by decide +kernel
theorem d_M_paginate_166 : decode b_M_paginate 166 = .ok (.iload 4, 2) := by decide +kernel
theorem d_M_paginate_168 : decode b_M_paginate 168 = .ok (.iload_n 1, 1) := by decide +kernel
theorem d_M_paginate_169 : decode b_M_paginate 169 = .ok (.iastore, 1) := by decide +kernel
theorem d_M_paginate_170 : decode b_M_paginate 170 = .ok (.aload_n 0, 1) := by decide +kernel
theorem d_M_paginate_171 : decode b_M_paginate 171 = .ok (.getfield 44, 3) := by decide +kernel
theorem d_M_paginate_174 : decode b_M_paginate 174 = .ok (.iload 4, 2) := by decide +kernel
theorem d_M_paginate_176 : decode b_M_paginate 176 = .ok (.iload_n 2, 1) := by decide +kernel
theorem d_M_paginate_177 : decode b_M_paginate 177 = .ok (.iastore, 1) := by decide +kernel
theorem d_M_paginate_178 : decode b_M_paginate 178 = .ok (.iinc 2 (1), 3) := by decide +kernel
theorem d_M_paginate_181 : decode b_M_paginate 181 = .ok (.iconst 1, 1) := by decide +kernel
theorem d_M_paginate_182 : decode b_M_paginate 182 = .ok (.istore_n 3, 1) := by decide +kernel
theorem d_M_paginate_183 : decode b_M_paginate 183 = .ok (.iinc 4 (1), 3) := by decide +kernel
theorem d_M_paginate_186 : decode b_M_paginate 186 = .ok (.goto (-177), 3) := by decide +kernel
theorem d_M_paginate_189 : decode b_M_paginate 189 = .ok (.iload_n 3, 1) := by decide +kernel
theorem d_M_paginate_190 : decode b_M_paginate 190 = .ok (.ifCond .eq (17), 3) := by decide +kernel
theorem d_M_paginate_193 : decode b_M_paginate 193 = .ok (.iload_n 1, 1) := by decide +kernel
theorem d_M_paginate_194 : decode b_M_paginate 194 = .ok (.iload_n 2, 1) := by decide +kernel
theorem d_M_paginate_195 : decode b_M_paginate 195 = .ok (.ifCond .le (7), 3) := by decide +kernel
theorem d_M_paginate_198 : decode b_M_paginate 198 = .ok (.iconst 1, 1) := by decide +kernel
theorem d_M_paginate_199 : decode b_M_paginate 199 = .ok (.goto (4), 3) := by decide +kernel
theorem d_M_paginate_202 : decode b_M_paginate 202 = .ok (.iconst 0, 1) := by decide +kernel
theorem d_M_paginate_203 : decode b_M_paginate 203 = .ok (.iadd, 1) := by decide +kernel
theorem d_M_paginate_204 : decode b_M_paginate 204 = .ok (.goto (4), 3) := by decide +kernel
theorem d_M_paginate_207 : decode b_M_paginate 207 = .ok (.iconst 1, 1) := by decide +kernel
theorem d_M_paginate_208 : decode b_M_paginate 208 = .ok (.ireturn, 1) := by decide +kernel
theorem d_M_pages_0 : decode b_M_pages 0 = .ok (.aload_n 0, 1) := by decide +kernel
theorem d_M_pages_1 : decode b_M_pages 1 = .ok (.iload_n 1, 1) := by decide +kernel
theorem d_M_pages_2 : decode b_M_pages 2 = .ok (.iconst 5, 1) := by decide +kernel
theorem d_M_pages_3 : decode b_M_pages 3 = .ok (.if_icmp .lt (21), 3) := by decide +kernel
theorem d_M_pages_6 : decode b_M_pages 6 = .ok (.iload_n 1, 1) := by decide +kernel
theorem d_M_pages_7 : decode b_M_pages 7 = .ok (.bipush (40), 2) := by decide +kernel
theorem d_M_pages_9 : decode b_M_pages 9 = .ok (.if_icmp .gt (15), 3) := by decide +kernel
theorem d_M_pages_12 : decode b_M_pages 12 = .ok (.iload_n 2, 1) := by decide +kernel
theorem d_M_pages_13 : decode b_M_pages 13 = .ok (.bipush (8), 2) := by decide +kernel
theorem d_M_pages_15 : decode b_M_pages 15 = .ok (.if_icmp .lt (9), 3) := by decide +kernel
theorem d_M_pages_18 : decode b_M_pages 18 = .ok (.iload_n 2, 1) := by decide +kernel
theorem d_M_pages_19 : decode b_M_pages 19 = .ok (.bipush (60), 2) := by decide +kernel
theorem d_M_pages_21 : decode b_M_pages 21 = .ok (.if_icmp .le (7), 3) := by decide +kernel
theorem d_M_pages_24 : decode b_M_pages 24 = .ok (.iconst 1, 1) := by decide +kernel
theorem d_M_pages_25 : decode b_M_pages 25 = .ok (.goto (4), 3) := by decide +kernel
theorem d_M_pages_28 : decode b_M_pages 28 = .ok (.iconst 0, 1) := by decide +kernel
theorem d_M_pages_29 : decode b_M_pages 29 = .ok (.putfield 97, 3) := by decide +kernel
theorem d_M_pages_32 : decode b_M_pages 32 = .ok (.aload_n 0, 1) := by decide +kernel
theorem d_M_pages_33 : decode b_M_pages 33 = .ok (.getfield 97, 3) := by decide +kernel
theorem d_M_pages_36 : decode b_M_pages 36 = .ok (.ifCond .le (5), 3) := by decide +kernel
