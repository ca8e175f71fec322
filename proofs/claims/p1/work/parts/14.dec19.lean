theorem d_L_law_304 : decode b_L_law 304 = .ok (.iload 4, 2) := by decide +kernel
theorem d_L_law_306 : decode b_L_law 306 = .ok (.iconst 2, 1) := by decide +kernel
theorem d_L_law_307 : decode b_L_law 307 = .ok (.iadd, 1) := by decide +kernel
theorem d_L_law_308 : decode b_L_law 308 = .ok (.iaload, 1) := by decide +kernel
theorem d_L_law_309 : decode b_L_law 309 = .ok (.aload_n 3, 1) := by decide +kernel
theorem d_L_law_310 : decode b_L_law 310 = .ok (.invokestatic 50, 3) := by decide +kernel
theorem d_L_law_313 : decode b_L_law 313 = .ok (.istore 5, 2) := by decide +kernel
theorem d_L_law_315 : decode b_L_law 315 = .ok (.aload_n 2, 1) := by decide +kernel
theorem d_L_law_316 : decode b_L_law 316 = .ok (.aload_n 0, 1) := by decide +kernel
theorem d_L_law_317 : decode b_L_law 317 = .ok (.iload 4, 2) := by decide +kernel
theorem d_L_law_319 : decode b_L_law 319 = .ok (.iconst 1, 1) := by decide +kernel
theorem d_L_law_320 : decode b_L_law 320 = .ok (.iadd, 1) := by decide +kernel
theorem d_L_law_321 : decode b_L_law 321 = .ok (.iaload, 1) := by decide +kernel
theorem d_L_law_322 : decode b_L_law 322 = .ok (.aload_n 0, 1) := by decide +kernel
theorem d_L_law_323 : decode b_L_law 323 = .ok (.iload 4, 2) := by decide +kernel
theorem d_L_law_325 : decode b_L_law 325 = .ok (.iconst 2, 1) := by decide +kernel
theorem d_L_law_326 : decode b_L_law 326 = .ok (.iadd, 1) := by decide +kernel
theorem d_L_law_327 : decode b_L_law 327 = .ok (.iaload, 1) := by decide +kernel
theorem d_L_law_328 : decode b_L_law 328 = .ok (.invokevirtual 52, 3) := by decide +kernel
theorem d_L_law_331 : decode b_L_law 331 = .ok (.istore 6, 2) := by decide +kernel
theorem d_L_law_333 : decode b_L_law 333 = .ok (.aload_n 2, 1) := by decide +kernel
theorem d_L_law_334 : decode b_L_law 334 = .ok (.invokevirtual 34, 3) := by decide +kernel
theorem d_L_law_337 : decode b_L_law 337 = .ok (.iload 5, 2) := by decide +kernel
theorem d_L_law_339 : decode b_L_law 339 = .ok (.if_icmp .eq (5), 3) := by decide +kernel
theorem d_L_law_342 : decode b_L_law 342 = .ok (.iconst 0, 1) := by decide +kernel
theorem d_L_law_343 : decode b_L_law 343 = .ok (.ireturn, 1) := by decide +kernel
theorem d_L_law_344 : decode b_L_law 344 = .ok (.iload 5, 2) := by decide +kernel
theorem d_L_law_346 : decode b_L_law 346 = .ok (.ifCond .ne (15), 3) := by decide +kernel
theorem d_L_law_349 : decode b_L_law 349 = .ok (.aload_n 3, 1) := by decide +kernel
theorem d_L_law_350 : decode b_L_law 350 = .ok (.iconst 0, 1) := by decide +kernel
theorem d_L_law_351 : decode b_L_law 351 = .ok (.laload, 1) := by decide +kernel
theorem d_L_law_352 : decode b_L_law 352 = .ok (.iload 6, 2) := by decide +kernel
theorem d_L_law_354 : decode b_L_law 354 = .ok (.i2l, 1) := by decide +kernel
theorem d_L_law_355 : decode b_L_law 355 = .ok (.lcmp, 1) := by decide +kernel
theorem d_L_law_356 : decode b_L_law 356 = .ok (.ifCond .eq (5), 3) := by decide +kernel
theorem d_L_law_359 : decode b_L_law 359 = .ok (.iconst 0, 1) := by decide +kernel
theorem d_L_law_360 : decode b_L_law 360 = .ok (.ireturn, 1) := by decide +kernel
theorem d_L_law_361 : decode b_L_law 361 = .ok (.goto (213), 3) := by decide +kernel
theorem d_L_law_364 : decode b_L_law 364 = .ok (.aload_n 1, 1) := by decide +kernel
theorem d_L_law_365 : decode b_L_law 365 = .ok (.aload_n 0, 1) := by decide +kernel
theorem d_L_law_366 : decode b_L_law 366 = .ok (.iload 4, 2) := by decide +kernel
theorem d_L_law_368 : decode b_L_law 368 = .ok (.iconst 1, 1) := by decide +kernel
theorem d_L_law_369 : decode b_L_law 369 = .ok (.iadd, 1) := by decide +kernel
theorem d_L_law_370 : decode b_L_law 370 = .ok (.iaload, 1) := by decide +kernel
theorem d_L_law_371 : decode b_L_law 371 = .ok (.aload_n 0, 1) := by decide +kernel
theorem d_L_law_372 : decode b_L_law 372 = .ok (.iload 4, 2) := by decide +kernel
theorem d_L_law_374 : decode b_L_law 374 = .ok (.iconst 2, 1) := by decide +kernel
theorem d_L_law_375 : decode b_L_law 375 = .ok (.iadd, 1) := by decide +kernel
theorem d_L_law_376 : decode b_L_law 376 = .ok (.iaload, 1) := by decide +kernel
theorem d_L_law_377 : decode b_L_law 377 = .ok (.aload_n 0, 1) := by decide +kernel
theorem d_L_law_378 : decode b_L_law 378 = .ok (.iload 4, 2) := by decide +kernel
theorem d_L_law_380 : decode b_L_law 380 = .ok (.iconst 3, 1) := by decide +kernel
theorem d_L_law_381 : decode b_L_law 381 = .ok (.iadd, 1) := by decide +kernel
theorem d_L_law_382 : decode b_L_law 382 = .ok (.iaload, 1) := by decide +kernel
theorem d_L_law_383 : decode b_L_law 383 = .ok (.invokevirtual 53, 3) := by decide +kernel
theorem d_L_law_386 : decode b_L_law 386 = .ok (.aload_n 2, 1) := by decide +kernel
theorem d_L_law_387 : decode b_L_law 387 = .ok (.aload_n 0, 1) := by decide +kernel
theorem d_L_law_388 : decode b_L_law 388 = .ok (.iload 4, 2) := by decide +kernel
theorem d_L_law_390 : decode b_L_law 390 = .ok (.iconst 1, 1) := by decide +kernel
theorem d_L_law_391 : decode b_L_law 391 = .ok (.iadd, 1) := by decide +kernel
theorem d_L_law_392 : decode b_L_law 392 = .ok (.iaload, 1) := by decide +kernel
theorem d_L_law_393 : decode b_L_law 393 = .ok (.aload_n 0, 1) := by decide +kernel
theorem d_L_law_394 : decode b_L_law 394 = .ok (.iload 4, 2) := by decide +kernel
theorem d_L_law_396 : decode b_L_law 396 = .ok (.iconst 2, 1) := by decide +kernel
theorem d_L_law_397 : decode b_L_law 397 = .ok (.iadd, 1) := by decide +kernel
theorem d_L_law_398 : decode b_L_law 398 = .ok (.iaload, 1) := by decide +kernel
theorem d_L_law_399 : decode b_L_law 399 = .ok (.aload_n 0, 1) := by decide +kernel
theorem d_L_law_400 : decode b_L_law 400 = .ok (.iload 4, 2) := by decide +kernel
theorem d_L_law_402 : decode b_L_law 402 = .ok (.iconst 3, 1) := by decide +kernel
theorem d_L_law_403 : decode b_L_law 403 = .ok (.iadd, 1) := by decide +kernel
theorem d_L_law_404 : decode b_L_law 404 = .ok (.iaload, 1) := by decide +kernel
theorem d_L_law_405 : decode b_L_law 405 = .ok (.invokevirtual 57, 3) := by decide +kernel
theorem d_L_law_408 : decode b_L_law 408 = .ok (.if_icmp .eq (166), 3) := by decide +kernel
theorem d_L_law_411 : decode b_L_law 411 = .ok (.iconst 0, 1) := by decide +kernel
theorem d_L_law_412 : decode b_L_law 412 = .ok (.ireturn, 1) := by decide +kernel
theorem d_L_law_413 : decode b_L_law 413 = .ok (.aload_n 1, 1) := by decide +kernel
theorem d_L_law_414 : decode b_L_law 414 = .ok (.aload_n 0, 1) := by decide +kernel
theorem d_L_law_415 : decode b_L_law 415 = .ok (.iload 4, 2) := by decide +kernel
theorem d_L_law_417 : decode b_L_law 417 = .ok (.iconst 1, 1) := by decide +kernel
theorem d_L_law_418 : decode b_L_law 418 = .ok (.iadd, 1) := by decide +kernel
theorem d_L_law_419 : decode b_L_law 419 = .ok (.iaload, 1) := by decide +kernel
theorem d_L_law_420 : decode b_L_law 420 = .ok (.aload_n 0, 1) := by decide +kernel
theorem d_L_law_421 : decode b_L_law 421 = .ok (.iload 4, 2) := by decide +kernel
theorem d_L_law_423 : decode b_L_law 423 = .ok (.iconst 2, 1) := by decide +kernel
theorem d_L_law_424 : decode b_L_law 424 = .ok (.iadd, 1) := by decide +kernel
theorem d_L_law_425 : decode b_L_law 425 = .ok (.iaload, 1) := by decide +kernel
theorem d_L_law_426 : decode b_L_law 426 = .ok (.invokevirtual 58, 3) := by decide +kernel
theorem d_L_law_429 : decode b_L_law 429 = .ok (.aload_n 2, 1) := by decide +kernel
theorem d_L_law_430 : decode b_L_law 430 = .ok (.aload_n 0, 1) := by decide +kernel
theorem d_L_law_431 : decode b_L_law 431 = .ok (.iload 4, 2) := by decide +kernel
theorem d_L_law_433 : decode b_L_law 433 = .ok (.iconst 1, 1) := by decide +kernel
theorem d_L_law_434 : decode b_L_law 434 = .ok (.iadd, 1) := by decide +kernel
theorem d_L_law_435 : decode b_L_law 435 = .ok (.iaload, 1) := by decide +kernel
theorem d_L_law_436 : decode b_L_law 436 = .ok (.aload_n 0, 1) := by decide +kernel
theorem d_L_law_437 : decode b_L_law 437 = .ok (.iload 4, 2) := by decide +kernel
theorem d_L_law_439 : decode b_L_law 439 = .ok (.iconst 2, 1) := by decide +kernel
theorem d_L_law_440 : decode b_L_law 440 = .ok (.iadd, 1) := by decide +kernel
theorem d_L_law_441 : decode b_L_law 441 = .ok (.iaload, 1) := by decide +kernel
theorem d_L_law_442 : decode b_L_law 442 = .ok (.invokevirtual 61, 3) := by decide +kernel
theorem d_L_law_445 : decode b_L_law 445 = .ok (.if_icmp .eq (129), 3) := by decide +kernel
theorem d_L_law_448 : decode b_L_law 448 = .ok (.iconst 0, 1) := by decide +kernel
theorem d_L_law_449 : decode b_L_law 449 = .ok (.ireturn, 1) := by decide +kernel
theorem d_L_law_450 : decode b_L_law 450 = .ok (.aload_n 1, 1) := by decide +kernel
theorem d_L_law_451 : decode b_L_law 451 = .ok (.aload_n 0, 1) := by decide +kernel
theorem d_L_law_452 : decode b_L_law 452 = .ok (.iload 4, 2) := by decide +kernel
theorem d_L_law_454 : decode b_L_law 454 = .ok (.iconst 1, 1) := by decide +kernel
theorem d_L_law_455 : decode b_L_law 455 = .ok (.iadd, 1) := by decide +kernel
theorem d_L_law_456 : decode b_L_law 456 = .ok (.iaload, 1) := by decide +kernel
theorem d_L_law_457 : decode b_L_law 457 = .ok (.aload_n 0, 1) := by decide +kernel
theorem d_L_law_458 : decode b_L_law 458 = .ok (.iload 4, 2) := by decide +kernel
theorem d_L_law_460 : decode b_L_law 460 = .ok (.iconst 2, 1) := by decide +kernel
theorem d_L_law_461 : decode b_L_law 461 = .ok (.iadd, 1) := by decide +kernel
theorem d_L_law_462 : decode b_L_law 462 = .ok (.iaload, 1) := by decide +kernel
theorem d_L_law_463 : decode b_L_law 463 = .ok (.invokevirtual 62, 3) := by decide +kernel
theorem d_L_law_466 : decode b_L_law 466 = .ok (.aload_n 2, 1) := by decide +kernel
theorem d_L_law_467 : decode b_L_law 467 = .ok (.aload_n 0, 1) := by decide +kernel
theorem d_L_law_468 : decode b_L_law 468 = .ok (.iload 4, 2) := by decide +kernel
theorem d_L_law_470 : decode b_L_law 470 = .ok (.iconst 1, 1) := by decide +kernel
theorem d_L_law_471 : decode b_L_law 471 = .ok (.iadd, 1) := by decide +kernel
theorem d_L_law_472 : decode b_L_law 472 = .ok (.iaload, 1) := by decide +kernel
theorem d_L_law_473 : decode b_L_law 473 = .ok (.aload_n 0, 1) := by decide +kernel
theorem d_L_law_474 : decode b_L_law 474 = .ok (.iload 4, 2) := by decide +kernel
theorem d_L_law_476 : decode b_L_law 476 = .ok (.iconst 2, 1) := by decide +kernel
theorem d_L_law_477 : decode b_L_law 477 = .ok (.iadd, 1) := by decide +kernel
theorem d_L_law_478 : decode b_L_law 478 = .ok (.iaload, 1) := by decide +kernel
theorem d_L_law_479 : decode b_L_law 479 = .ok (.invokevirtual 65, 3) := by decide +kernel
theorem d_L_law_482 : decode b_L_law 482 = .ok (.if_icmp .eq (92), 3) := by decide +kernel
theorem d_L_law_485 : decode b_L_law 485 = .ok (.iconst 0, 1) := by decide +kernel
theorem d_L_law_486 : decode b_L_law 486 = .ok (.ireturn, 1) := by decide +kernel
theorem d_L_law_487 : decode b_L_law 487 = .ok (.aload_n 1, 1) := by decide +kernel
theorem d_L_law_488 : decode b_L_law 488 = .ok (.aload_n 0, 1) := by decide +kernel
theorem d_L_law_489 : decode b_L_law 489 = .ok (.iload 4, 2) := by decide +kernel
theorem d_L_law_491 : decode b_L_law 491 = .ok (.iconst 1, 1) := by decide +kernel
theorem d_L_law_492 : decode b_L_law 492 = .ok (.iadd, 1) := by decide +kernel
theorem d_L_law_493 : decode b_L_law 493 = .ok (.iaload, 1) := by decide +kernel
theorem d_L_law_494 : decode b_L_law 494 = .ok (.invokevirtual 66, 3) := by decide +kernel
theorem d_L_law_497 : decode b_L_law 497 = .ok (.aload_n 2, 1) := by decide +kernel
theorem d_L_law_498 : decode b_L_law 498 = .ok (.aload_n 0, 1) := by decide +kernel
theorem d_L_law_499 : decode b_L_law 499 = .ok (.iload 4, 2) := by decide +kernel
theorem d_L_law_501 : decode b_L_law 501 = .ok (.iconst 1, 1) := by decide +kernel
theorem d_L_law_502 : decode b_L_law 502 = .ok (.iadd, 1) := by decide +kernel
theorem d_L_law_503 : decode b_L_law 503 = .ok (.iaload, 1) := by decide +kernel
theorem d_L_law_504 : decode b_L_law 504 = .ok (.invokevirtual 70, 3) := by decide +kernel
theorem d_L_law_507 : decode b_L_law 507 = .ok (.if_icmp .eq (67), 3) := by decide +kernel
theorem d_L_law_510 : decode b_L_law 510 = .ok (.iconst 0, 1) := by decide +kernel
theorem d_L_law_511 : decode b_L_law 511 = .ok (.ireturn, 1) := by decide +kernel
theorem d_L_law_512 : decode b_L_law 512 = .ok (.aload_n 1, 1) := by decide +kernel
theorem d_L_law_513 : decode b_L_law 513 = .ok (.aload_n 0, 1) := by decide +kernel
theorem d_L_law_514 : decode b_L_law 514 = .ok (.iload 4, 2) := by decide +kernel
theorem d_L_law_516 : decode b_L_law 516 = .ok (.iconst 1, 1) := by decide +kernel
