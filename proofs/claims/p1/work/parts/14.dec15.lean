theorem d_M_beginNode_423 : decode b_M_beginNode 423 = .ok (.aload_n 0, 1) := by decide +kernel
theorem d_M_beginNode_424 : decode b_M_beginNode 424 = .ok (.invokevirtual 204, 3) := by decide +kernel
theorem d_M_beginNode_427 : decode b_M_beginNode 427 = .ok (.iconst 0, 1) := by decide +kernel
theorem d_M_beginNode_428 : decode b_M_beginNode 428 = .ok (.istore 6, 2) := by decide +kernel
theorem d_M_beginNode_430 : decode b_M_beginNode 430 = .ok (.iload 6, 2) := by decide +kernel
theorem d_M_beginNode_432 : decode b_M_beginNode 432 = .ok (.aload_n 0, 1) := by decide +kernel
theorem d_M_beginNode_433 : decode b_M_beginNode 433 = .ok (.getfield 189, 3) := by decide +kernel
theorem d_M_beginNode_436 : decode b_M_beginNode 436 = .ok (.if_icmp .ge (18), 3) := by decide +kernel
theorem d_M_beginNode_439 : decode b_M_beginNode 439 = .ok (.aload_n 0, 1) := by decide +kernel
theorem d_M_beginNode_440 : decode b_M_beginNode 440 = .ok (.getfield 88, 3) := by decide +kernel
theorem d_M_beginNode_443 : decode b_M_beginNode 443 = .ok (.iload 6, 2) := by decide +kernel
theorem d_M_beginNode_445 : decode b_M_beginNode 445 = .ok (.bipush (45), 2) := by decide +kernel
theorem d_M_beginNode_447 : decode b_M_beginNode 447 = .ok (.iastore, 1) := by decide +kernel
theorem d_M_beginNode_448 : decode b_M_beginNode 448 = .ok (.iinc 6 (1), 3) := by decide +kernel
theorem d_M_beginNode_451 : decode b_M_beginNode 451 = .ok (.goto (-21), 3) := by decide +kernel
theorem d_M_beginNode_454 : decode b_M_beginNode 454 = .ok (.aload_n 0, 1) := by decide +kernel
theorem d_M_beginNode_455 : decode b_M_beginNode 455 = .ok (.aload_n 0, 1) := by decide +kernel
theorem d_M_beginNode_456 : decode b_M_beginNode 456 = .ok (.getfield 189, 3) := by decide +kernel
theorem d_M_beginNode_459 : decode b_M_beginNode 459 = .ok (.putfield 179, 3) := by decide +kernel
theorem d_M_beginNode_462 : decode b_M_beginNode 462 = .ok (.aload_n 0, 1) := by decide +kernel
theorem d_M_beginNode_463 : decode b_M_beginNode 463 = .ok (.invokevirtual 210, 3) := by decide +kernel
theorem d_M_beginNode_466 : decode b_M_beginNode 466 = .ok (.goto (72), 3) := by decide +kernel
theorem d_M_beginNode_469 : decode b_M_beginNode 469 = .ok (.aload_n 0, 1) := by decide +kernel
theorem d_M_beginNode_470 : decode b_M_beginNode 470 = .ok (.iload_n 1, 1) := by decide +kernel
theorem d_M_beginNode_471 : decode b_M_beginNode 471 = .ok (.invokevirtual 223, 3) := by decide +kernel
theorem d_M_beginNode_474 : decode b_M_beginNode 474 = .ok (.goto (64), 3) := by decide +kernel
theorem d_M_beginNode_477 : decode b_M_beginNode 477 = .ok (.aload_n 0, 1) := by decide +kernel
theorem d_M_beginNode_478 : decode b_M_beginNode 478 = .ok (.invokevirtual 195, 3) := by decide +kernel
theorem d_M_beginNode_481 : decode b_M_beginNode 481 = .ok (.aload_n 0, 1) := by decide +kernel
theorem d_M_beginNode_482 : decode b_M_beginNode 482 = .ok (.invokevirtual 192, 3) := by decide +kernel
theorem d_M_beginNode_485 : decode b_M_beginNode 485 = .ok (.goto (53), 3) := by decide +kernel
theorem d_M_beginNode_488 : decode b_M_beginNode 488 = .ok (.iconst 0, 1) := by decide +kernel
theorem d_M_beginNode_489 : decode b_M_beginNode 489 = .ok (.istore 6, 2) := by decide +kernel
theorem d_M_beginNode_491 : decode b_M_beginNode 491 = .ok (.iload 6, 2) := by decide +kernel
theorem d_M_beginNode_493 : decode b_M_beginNode 493 = .ok (.aload_n 0, 1) := by decide +kernel
theorem d_M_beginNode_494 : decode b_M_beginNode 494 = .ok (.getfield 25, 3) := by decide +kernel
theorem d_M_beginNode_497 : decode b_M_beginNode 497 = .ok (.iload_n 1, 1) := by decide +kernel
theorem d_M_beginNode_498 : decode b_M_beginNode 498 = .ok (.iaload, 1) := by decide +kernel
theorem d_M_beginNode_499 : decode b_M_beginNode 499 = .ok (.if_icmp .ge (36), 3) := by decide +kernel
theorem d_M_beginNode_502 : decode b_M_beginNode 502 = .ok (.iload 4, 2) := by decide +kernel
theorem d_M_beginNode_504 : decode b_M_beginNode 504 = .ok (.ifCond .ne (31), 3) := by decide +kernel
theorem d_M_beginNode_507 : decode b_M_beginNode 507 = .ok (.aload_n 0, 1) := by decide +kernel
theorem d_M_beginNode_508 : decode b_M_beginNode 508 = .ok (.aload_n 0, 1) := by decide +kernel
theorem d_M_beginNode_509 : decode b_M_beginNode 509 = .ok (.getfield 31, 3) := by decide +kernel
theorem d_M_beginNode_512 : decode b_M_beginNode 512 = .ok (.aload_n 0, 1) := by decide +kernel
theorem d_M_beginNode_513 : decode b_M_beginNode 513 = .ok (.getfield 22, 3) := by decide +kernel
theorem d_M_beginNode_516 : decode b_M_beginNode 516 = .ok (.iload_n 1, 1) := by decide +kernel
theorem d_M_beginNode_517 : decode b_M_beginNode 517 = .ok (.iaload, 1) := by decide +kernel
theorem d_M_beginNode_518 : decode b_M_beginNode 518 = .ok (.iload 6, 2) := by decide +kernel
theorem d_M_beginNode_520 : decode b_M_beginNode 520 = .ok (.iadd, 1) := by decide +kernel
theorem d_M_beginNode_521 : decode b_M_beginNode 521 = .ok (.baload, 1) := by decide +kernel
theorem d_M_beginNode_522 : decode b_M_beginNode 522 = .ok (.sipush (255), 3) := by decide +kernel
theorem d_M_beginNode_525 : decode b_M_beginNode 525 = .ok (.iand, 1) := by decide +kernel
theorem d_M_beginNode_526 : decode b_M_beginNode 526 = .ok (.invokevirtual 220, 3) := by decide +kernel
theorem d_M_beginNode_529 : decode b_M_beginNode 529 = .ok (.iinc 6 (1), 3) := by decide +kernel
theorem d_M_beginNode_532 : decode b_M_beginNode 532 = .ok (.goto (-41), 3) := by decide +kernel
theorem d_M_beginNode_535 : decode b_M_beginNode 535 = .ok (.goto (3), 3) := by decide +kernel
theorem d_M_beginNode_538 : decode b_M_beginNode 538 = .ok (.return_, 1) := by decide +kernel
theorem d_M_endNode_0 : decode b_M_endNode 0 = .ok (.aload_n 0, 1) := by decide +kernel
theorem d_M_endNode_1 : decode b_M_endNode 1 = .ok (.getfield 7, 3) := by decide +kernel
theorem d_M_endNode_4 : decode b_M_endNode 4 = .ok (.iload_n 1, 1) := by decide +kernel
theorem d_M_endNode_5 : decode b_M_endNode 5 = .ok (.iaload, 1) := by decide +kernel
theorem d_M_endNode_6 : decode b_M_endNode 6 = .ok (.istore_n 2, 1) := by decide +kernel
theorem d_M_endNode_7 : decode b_M_endNode 7 = .ok (.iload_n 2, 1) := by decide +kernel
theorem d_M_endNode_8 : decode b_M_endNode 8 = .ok (.ifCond .eq (8), 3) := by decide +kernel
theorem d_M_endNode_11 : decode b_M_endNode 11 = .ok (.iload_n 2, 1) := by decide +kernel
theorem d_M_endNode_12 : decode b_M_endNode 12 = .ok (.iconst 1, 1) := by decide +kernel
theorem d_M_endNode_13 : decode b_M_endNode 13 = .ok (.if_icmp .ne (44), 3) := by decide +kernel
theorem d_M_endNode_16 : decode b_M_endNode 16 = .ok (.aload_n 0, 1) := by decide +kernel
theorem d_M_endNode_17 : decode b_M_endNode 17 = .ok (.invokevirtual 210, 3) := by decide +kernel
theorem d_M_endNode_20 : decode b_M_endNode 20 = .ok (.iload_n 2, 1) := by decide +kernel
theorem d_M_endNode_21 : decode b_M_endNode 21 = .ok (.iconst 1, 1) := by decide +kernel
theorem d_M_endNode_22 : decode b_M_endNode 22 = .ok (.if_icmp .ne (35), 3) := by decide +kernel
theorem d_M_endNode_25 : decode b_M_endNode 25 = .ok (.aload_n 0, 1) := by decide +kernel
theorem d_M_endNode_26 : decode b_M_endNode 26 = .ok (.getfield 162, 3) := by decide +kernel
theorem d_M_endNode_29 : decode b_M_endNode 29 = .ok (.ifCond .ne (28), 3) := by decide +kernel
theorem d_M_endNode_32 : decode b_M_endNode 32 = .ok (.aload_n 0, 1) := by decide +kernel
theorem d_M_endNode_33 : decode b_M_endNode 33 = .ok (.getfield 176, 3) := by decide +kernel
theorem d_M_endNode_36 : decode b_M_endNode 36 = .ok (.ifCond .lt (21), 3) := by decide +kernel
theorem d_M_endNode_39 : decode b_M_endNode 39 = .ok (.aload_n 0, 1) := by decide +kernel
theorem d_M_endNode_40 : decode b_M_endNode 40 = .ok (.getfield 38, 3) := by decide +kernel
theorem d_M_endNode_43 : decode b_M_endNode 43 = .ok (.aload_n 0, 1) := by decide +kernel
theorem d_M_endNode_44 : decode b_M_endNode 44 = .ok (.getfield 176, 3) := by decide +kernel
theorem d_M_endNode_47 : decode b_M_endNode 47 = .ok (.aload_n 0, 1) := by decide +kernel
theorem d_M_endNode_48 : decode b_M_endNode 48 = .ok (.getfield 159, 3) := by decide +kernel
theorem d_M_endNode_51 : decode b_M_endNode 51 = .ok (.aload_n 0, 1) := by decide +kernel
theorem d_M_endNode_52 : decode b_M_endNode 52 = .ok (.getfield 176, 3) := by decide +kernel
theorem d_M_endNode_55 : decode b_M_endNode 55 = .ok (.isub, 1) := by decide +kernel
theorem d_M_endNode_56 : decode b_M_endNode 56 = .ok (.iastore, 1) := by decide +kernel
theorem d_M_endNode_57 : decode b_M_endNode 57 = .ok (.iload_n 2, 1) := by decide +kernel
theorem d_M_endNode_58 : decode b_M_endNode 58 = .ok (.bipush (7), 2) := by decide +kernel
theorem d_M_endNode_60 : decode b_M_endNode 60 = .ok (.if_icmp .ne (43), 3) := by decide +kernel
theorem d_M_endNode_63 : decode b_M_endNode 63 = .ok (.aload_n 0, 1) := by decide +kernel
theorem d_M_endNode_64 : decode b_M_endNode 64 = .ok (.getfield 198, 3) := by decide +kernel
theorem d_M_endNode_67 : decode b_M_endNode 67 = .ok (.ifCond .eq (7), 3) := by decide +kernel
theorem d_M_endNode_70 : decode b_M_endNode 70 = .ok (.aload_n 0, 1) := by decide +kernel
theorem d_M_endNode_71 : decode b_M_endNode 71 = .ok (.invokevirtual 210, 3) := by decide +kernel
theorem d_M_endNode_74 : decode b_M_endNode 74 = .ok (.aload_n 0, 1) := by decide +kernel
theorem d_M_endNode_75 : decode b_M_endNode 75 = .ok (.getfield 73, 3) := by decide +kernel
theorem d_M_endNode_78 : decode b_M_endNode 78 = .ok (.aload_n 0, 1) := by decide +kernel
theorem d_M_endNode_79 : decode b_M_endNode 79 = .ok (.getfield 166, 3) := by decide +kernel
theorem d_M_endNode_82 : decode b_M_endNode 82 = .ok (.iconst 1, 1) := by decide +kernel
theorem d_M_endNode_83 : decode b_M_endNode 83 = .ok (.isub, 1) := by decide +kernel
theorem d_M_endNode_84 : decode b_M_endNode 84 = .ok (.baload, 1) := by decide +kernel
theorem d_M_endNode_85 : decode b_M_endNode 85 = .ok (.ifCond .eq (18), 3) := by decide +kernel
theorem d_M_endNode_88 : decode b_M_endNode 88 = .ok (.aload_n 0, 1) := by decide +kernel
theorem d_M_endNode_89 : decode b_M_endNode 89 = .ok (.iconst (-1), 1) := by decide +kernel
theorem d_M_endNode_90 : decode b_M_endNode 90 = .ok (.putfield 176, 3) := by decide +kernel
theorem d_M_endNode_93 : decode b_M_endNode 93 = .ok (.aload_n 0, 1) := by decide +kernel
theorem d_M_endNode_94 : decode b_M_endNode 94 = .ok (.aload_n 0, 1) := by decide +kernel
theorem d_M_endNode_95 : decode b_M_endNode 95 = .ok (.getfield 85, 3) := by decide +kernel
theorem d_M_endNode_98 : decode b_M_endNode 98 = .ok (.iconst 0, 1) := by decide +kernel
theorem d_M_endNode_99 : decode b_M_endNode 99 = .ok (.iconst 0, 1) := by decide +kernel
theorem d_M_endNode_100 : decode b_M_endNode 100 = .ok (.invokevirtual 182, 3) := by decide +kernel
theorem d_M_endNode_103 : decode b_M_endNode 103 = .ok (.iload_n 2, 1) := by decide +kernel
theorem d_M_endNode_104 : decode b_M_endNode 104 = .ok (.bipush (11), 2) := by decide +kernel
theorem d_M_endNode_106 : decode b_M_endNode 106 = .ok (.if_icmp .eq (14), 3) := by decide +kernel
theorem d_M_endNode_109 : decode b_M_endNode 109 = .ok (.iload_n 2, 1) := by decide +kernel
theorem d_M_endNode_110 : decode b_M_endNode 110 = .ok (.iconst 4, 1) := by decide +kernel
theorem d_M_endNode_111 : decode b_M_endNode 111 = .ok (.if_icmp .lt (19), 3) := by decide +kernel
theorem d_M_endNode_114 : decode b_M_endNode 114 = .ok (.iload_n 2, 1) := by decide +kernel
theorem d_M_endNode_115 : decode b_M_endNode 115 = .ok (.bipush (7), 2) := by decide +kernel
theorem d_M_endNode_117 : decode b_M_endNode 117 = .ok (.if_icmp .gt (13), 3) := by decide +kernel
theorem d_M_endNode_120 : decode b_M_endNode 120 = .ok (.aload_n 0, 1) := by decide +kernel
theorem d_M_endNode_121 : decode b_M_endNode 121 = .ok (.dup, 1) := by decide +kernel
theorem d_M_endNode_122 : decode b_M_endNode 122 = .ok (.getfield 166, 3) := by decide +kernel
theorem d_M_endNode_125 : decode b_M_endNode 125 = .ok (.iconst 1, 1) := by decide +kernel
theorem d_M_endNode_126 : decode b_M_endNode 126 = .ok (.isub, 1) := by decide +kernel
theorem d_M_endNode_127 : decode b_M_endNode 127 = .ok (.putfield 166, 3) := by decide +kernel
theorem d_M_endNode_130 : decode b_M_endNode 130 = .ok (.return_, 1) := by decide +kernel
theorem d_M_layOut_0 : decode b_M_layOut 0 = .ok (.aload_n 0, 1) := by decide +kernel
theorem d_M_layOut_1 : decode b_M_layOut 1 = .ok (.iconst 0, 1) := by decide +kernel
theorem d_M_layOut_2 : decode b_M_layOut 2 = .ok (.putfield 159, 3) := by decide +kernel
theorem d_M_layOut_5 : decode b_M_layOut 5 = .ok (.aload_n 0, 1) := by decide +kernel
theorem d_M_layOut_6 : decode b_M_layOut 6 = .ok (.iconst 0, 1) := by decide +kernel
theorem d_M_layOut_7 : decode b_M_layOut 7 = .ok (.putfield 166, 3) := by decide +kernel
theorem d_M_layOut_10 : decode b_M_layOut 10 = .ok (.aload_n 0, 1) := by decide +kernel
theorem d_M_layOut_11 : decode b_M_layOut 11 = .ok (.iconst 0, 1) := by decide +kernel
theorem d_M_layOut_12 : decode b_M_layOut 12 = .ok (.putfield 198, 3) := by decide +kernel
theorem d_M_layOut_15 : decode b_M_layOut 15 = .ok (.aload_n 0, 1) := by decide +kernel
theorem d_M_layOut_16 : decode b_M_layOut 16 = .ok (.iconst (-1), 1) := by decide +kernel
theorem d_M_layOut_17 : decode b_M_layOut 17 = .ok (.putfield 176, 3) := by decide +kernel
theorem d_M_layOut_20 : decode b_M_layOut 20 = .ok (.aload_n 0, 1) := by decide +kernel
theorem d_M_layOut_21 : decode b_M_layOut 21 = .ok (.iconst 0, 1) := by decide +kernel
theorem d_M_layOut_22 : decode b_M_layOut 22 = .ok (.putfield 186, 3) := by decide +kernel
theorem d_M_layOut_25 : decode b_M_layOut 25 = .ok (.aload_n 0, 1) := by decide +kernel
theorem d_M_layOut_26 : decode b_M_layOut 26 = .ok (.iconst 0, 1) := by decide +kernel
theorem d_M_layOut_27 : decode b_M_layOut 27 = .ok (.putfield 179, 3) := by decide +kernel
theorem d_M_layOut_30 : decode b_M_layOut 30 = .ok (.iconst (-1), 1) := by decide +kernel
theorem d_M_layOut_31 : decode b_M_layOut 31 = .ok (.istore_n 1, 1) := by decide +kernel
