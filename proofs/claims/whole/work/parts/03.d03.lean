theorem dX7_others_380 : decode cX7_others 380 = .ok (.iconst 0, 1) := by decide +kernel
theorem dX7_others_381 : decode cX7_others 381 = .ok (.bastore, 1) := by decide +kernel
theorem dX7_others_382 : decode cX7_others 382 = .ok (.goto 168, 3) := by decide +kernel
theorem dX7_others_385 : decode cX7_others 385 = .ok (.iload_n 3, 1) := by decide +kernel
theorem dX7_others_386 : decode cX7_others 386 = .ok (.bipush 100, 2) := by decide +kernel
theorem dX7_others_388 : decode cX7_others 388 = .ok (.invokestatic 199, 3) := by decide +kernel
theorem dX7_others_391 : decode cX7_others 391 = .ok (.istore 7, 2) := by decide +kernel
theorem dX7_others_393 : decode cX7_others 393 = .ok (.aload_n 0, 1) := by decide +kernel
theorem dX7_others_394 : decode cX7_others 394 = .ok (.iload_n 1, 1) := by decide +kernel
theorem dX7_others_395 : decode cX7_others 395 = .ok (.aload_n 0, 1) := by decide +kernel
theorem dX7_others_396 : decode cX7_others 396 = .ok (.getfield 38, 3) := by decide +kernel
theorem dX7_others_399 : decode cX7_others 399 = .ok (.iload_n 1, 1) := by decide +kernel
theorem dX7_others_400 : decode cX7_others 400 = .ok (.iaload, 1) := by decide +kernel
theorem dX7_others_401 : decode cX7_others 401 = .ok (.iconst (-1), 1) := by decide +kernel
theorem dX7_others_402 : decode cX7_others 402 = .ok (.if_icmp .ne 13, 3) := by decide +kernel
theorem dX7_others_405 : decode cX7_others 405 = .ok (.aload_n 0, 1) := by decide +kernel
theorem dX7_others_406 : decode cX7_others 406 = .ok (.iload 7, 2) := by decide +kernel
theorem dX7_others_408 : decode cX7_others 408 = .ok (.invokevirtual 245, 3) := by decide +kernel
theorem dX7_others_411 : decode cX7_others 411 = .ok (.iconst (-1), 1) := by decide +kernel
theorem dX7_others_412 : decode cX7_others 412 = .ok (.if_icmp .eq 7, 3) := by decide +kernel
theorem dX7_others_415 : decode cX7_others 415 = .ok (.iconst 1, 1) := by decide +kernel
theorem dX7_others_416 : decode cX7_others 416 = .ok (.goto 4, 3) := by decide +kernel
theorem dX7_others_419 : decode cX7_others 419 = .ok (.iconst 0, 1) := by decide +kernel
theorem dX7_others_420 : decode cX7_others 420 = .ok (.invokevirtual 202, 3) := by decide +kernel
theorem dX7_others_423 : decode cX7_others 423 = .ok (.ifCond .eq 6, 3) := by decide +kernel
theorem dX7_others_426 : decode cX7_others 426 = .ok (.goto 124, 3) := by decide +kernel
theorem dX7_others_429 : decode cX7_others 429 = .ok (.aload_n 0, 1) := by decide +kernel
theorem dX7_others_430 : decode cX7_others 430 = .ok (.getfield 38, 3) := by decide +kernel
theorem dX7_others_433 : decode cX7_others 433 = .ok (.iload_n 1, 1) := by decide +kernel
theorem dX7_others_434 : decode cX7_others 434 = .ok (.iload 7, 2) := by decide +kernel
theorem dX7_others_436 : decode cX7_others 436 = .ok (.iastore, 1) := by decide +kernel
theorem dX7_others_437 : decode cX7_others 437 = .ok (.goto 113, 3) := by decide +kernel
theorem dX7_others_440 : decode cX7_others 440 = .ok (.aload_n 0, 1) := by decide +kernel
theorem dX7_others_441 : decode cX7_others 441 = .ok (.iload 4, 2) := by decide +kernel
theorem dX7_others_443 : decode cX7_others 443 = .ok (.bipush 100, 2) := by decide +kernel
theorem dX7_others_445 : decode cX7_others 445 = .ok (.invokestatic 199, 3) := by decide +kernel
theorem dX7_others_448 : decode cX7_others 448 = .ok (.invokevirtual 245, 3) := by decide +kernel
theorem dX7_others_451 : decode cX7_others 451 = .ok (.istore 7, 2) := by decide +kernel
theorem dX7_others_453 : decode cX7_others 453 = .ok (.aload_n 0, 1) := by decide +kernel
theorem dX7_others_454 : decode cX7_others 454 = .ok (.iload 5, 2) := by decide +kernel
theorem dX7_others_456 : decode cX7_others 456 = .ok (.iload 7, 2) := by decide +kernel
theorem dX7_others_458 : decode cX7_others 458 = .ok (.iconst (-1), 1) := by decide +kernel
theorem dX7_others_459 : decode cX7_others 459 = .ok (.if_icmp .ne 7, 3) := by decide +kernel
theorem dX7_others_462 : decode cX7_others 462 = .ok (.iconst 1, 1) := by decide +kernel
theorem dX7_others_463 : decode cX7_others 463 = .ok (.goto 4, 3) := by decide +kernel
theorem dX7_others_466 : decode cX7_others 466 = .ok (.iconst 2, 1) := by decide +kernel
theorem dX7_others_467 : decode cX7_others 467 = .ok (.iload 7, 2) := by decide +kernel
theorem dX7_others_469 : decode cX7_others 469 = .ok (.iconst (-1), 1) := by decide +kernel
theorem dX7_others_470 : decode cX7_others 470 = .ok (.if_icmp .ne 7, 3) := by decide +kernel
theorem dX7_others_473 : decode cX7_others 473 = .ok (.iconst 3, 1) := by decide +kernel
theorem dX7_others_474 : decode cX7_others 474 = .ok (.goto 7, 3) := by decide +kernel
theorem dX7_others_477 : decode cX7_others 477 = .ok (.iload 7, 2) := by decide +kernel
theorem dX7_others_479 : decode cX7_others 479 = .ok (.iconst 1, 1) := by decide +kernel
theorem dX7_others_480 : decode cX7_others 480 = .ok (.iadd, 1) := by decide +kernel
theorem dX7_others_481 : decode cX7_others 481 = .ok (.invokevirtual 124, 3) := by decide +kernel
theorem dX7_others_484 : decode cX7_others 484 = .ok (.goto 66, 3) := by decide +kernel
theorem dX7_others_487 : decode cX7_others 487 = .ok (.iconst 0, 1) := by decide +kernel
theorem dX7_others_488 : decode cX7_others 488 = .ok (.istore 7, 2) := by decide +kernel
theorem dX7_others_490 : decode cX7_others 490 = .ok (.iload 7, 2) := by decide +kernel
theorem dX7_others_492 : decode cX7_others 492 = .ok (.aload_n 0, 1) := by decide +kernel
theorem dX7_others_493 : decode cX7_others 493 = .ok (.getfield 14, 3) := by decide +kernel
theorem dX7_others_496 : decode cX7_others 496 = .ok (.iload 5, 2) := by decide +kernel
theorem dX7_others_498 : decode cX7_others 498 = .ok (.iaload, 1) := by decide +kernel
theorem dX7_others_499 : decode cX7_others 499 = .ok (.if_icmp .ge 51, 3) := by decide +kernel
theorem dX7_others_502 : decode cX7_others 502 = .ok (.aload_n 0, 1) := by decide +kernel
theorem dX7_others_503 : decode cX7_others 503 = .ok (.getfield 260, 3) := by decide +kernel
theorem dX7_others_506 : decode cX7_others 506 = .ok (.sipush 600, 3) := by decide +kernel
theorem dX7_others_509 : decode cX7_others 509 = .ok (.if_icmp .ge 25, 3) := by decide +kernel
theorem dX7_others_512 : decode cX7_others 512 = .ok (.aload_n 0, 1) := by decide +kernel
theorem dX7_others_513 : decode cX7_others 513 = .ok (.getfield 99, 3) := by decide +kernel
theorem dX7_others_516 : decode cX7_others 516 = .ok (.aload_n 0, 1) := by decide +kernel
theorem dX7_others_517 : decode cX7_others 517 = .ok (.getfield 260, 3) := by decide +kernel
theorem dX7_others_520 : decode cX7_others 520 = .ok (.aload_n 0, 1) := by decide +kernel
theorem dX7_others_521 : decode cX7_others 521 = .ok (.getfield 8, 3) := by decide +kernel
theorem dX7_others_524 : decode cX7_others 524 = .ok (.bipush 95, 2) := by decide +kernel
theorem dX7_others_526 : decode cX7_others 526 = .ok (.iload 5, 2) := by decide +kernel
theorem dX7_others_528 : decode cX7_others 528 = .ok (.imul, 1) := by decide +kernel
theorem dX7_others_529 : decode cX7_others 529 = .ok (.iload 7, 2) := by decide +kernel
theorem dX7_others_531 : decode cX7_others 531 = .ok (.iadd, 1) := by decide +kernel
theorem dX7_others_532 : decode cX7_others 532 = .ok (.iaload, 1) := by decide +kernel
theorem dX7_others_533 : decode cX7_others 533 = .ok (.iastore, 1) := by decide +kernel
theorem dX7_others_534 : decode cX7_others 534 = .ok (.aload_n 0, 1) := by decide +kernel
theorem dX7_others_535 : decode cX7_others 535 = .ok (.dup, 1) := by decide +kernel
theorem dX7_others_536 : decode cX7_others 536 = .ok (.getfield 260, 3) := by decide +kernel
theorem dX7_others_539 : decode cX7_others 539 = .ok (.iconst 1, 1) := by decide +kernel
theorem dX7_others_540 : decode cX7_others 540 = .ok (.iadd, 1) := by decide +kernel
theorem dX7_others_541 : decode cX7_others 541 = .ok (.putfield 260, 3) := by decide +kernel
theorem dX7_others_544 : decode cX7_others 544 = .ok (.iinc 7 1, 3) := by decide +kernel
theorem dX7_others_547 : decode cX7_others 547 = .ok (.goto (-57), 3) := by decide +kernel
theorem dX7_others_550 : decode cX7_others 550 = .ok (.return_, 1) := by decide +kernel
theorem dX7_nextReady_0 : decode cX7_nextReady 0 = .ok (.iconst (-1), 1) := by decide +kernel
theorem dX7_nextReady_1 : decode cX7_nextReady 1 = .ok (.istore_n 2, 1) := by decide +kernel
theorem dX7_nextReady_2 : decode cX7_nextReady 2 = .ok (.iconst 0, 1) := by decide +kernel
theorem dX7_nextReady_3 : decode cX7_nextReady 3 = .ok (.istore_n 3, 1) := by decide +kernel
theorem dX7_nextReady_4 : decode cX7_nextReady 4 = .ok (.iload_n 3, 1) := by decide +kernel
theorem dX7_nextReady_5 : decode cX7_nextReady 5 = .ok (.aload_n 0, 1) := by decide +kernel
theorem dX7_nextReady_6 : decode cX7_nextReady 6 = .ok (.getfield 121, 3) := by decide +kernel
theorem dX7_nextReady_9 : decode cX7_nextReady 9 = .ok (.if_icmp .ge 143, 3) := by decide +kernel
theorem dX7_nextReady_12 : decode cX7_nextReady 12 = .ok (.aload_n 0, 1) := by decide +kernel
theorem dX7_nextReady_13 : decode cX7_nextReady 13 = .ok (.getfield 29, 3) := by decide +kernel
theorem dX7_nextReady_16 : decode cX7_nextReady 16 = .ok (.iload_n 3, 1) := by decide +kernel
theorem dX7_nextReady_17 : decode cX7_nextReady 17 = .ok (.iaload, 1) := by decide +kernel
theorem dX7_nextReady_18 : decode cX7_nextReady 18 = .ok (.ifCond .eq 6, 3) := by decide +kernel
theorem dX7_nextReady_21 : decode cX7_nextReady 21 = .ok (.goto 125, 3) := by decide +kernel
theorem dX7_nextReady_24 : decode cX7_nextReady 24 = .ok (.iload_n 2, 1) := by decide +kernel
theorem dX7_nextReady_25 : decode cX7_nextReady 25 = .ok (.iconst (-1), 1) := by decide +kernel
theorem dX7_nextReady_26 : decode cX7_nextReady 26 = .ok (.if_icmp .ne 7, 3) := by decide +kernel
theorem dX7_nextReady_29 : decode cX7_nextReady 29 = .ok (.iconst 1, 1) := by decide +kernel
theorem dX7_nextReady_30 : decode cX7_nextReady 30 = .ok (.goto 4, 3) := by decide +kernel
theorem dX7_nextReady_33 : decode cX7_nextReady 33 = .ok (.iconst 0, 1) := by decide +kernel
theorem dX7_nextReady_34 : decode cX7_nextReady 34 = .ok (.istore 4, 2) := by decide +kernel
theorem dX7_nextReady_36 : decode cX7_nextReady 36 = .ok (.iload 4, 2) := by decide +kernel
theorem dX7_nextReady_38 : decode cX7_nextReady 38 = .ok (.ifCond .ne 70, 3) := by decide +kernel
theorem dX7_nextReady_41 : decode cX7_nextReady 41 = .ok (.aload_n 0, 1) := by decide +kernel
theorem dX7_nextReady_42 : decode cX7_nextReady 42 = .ok (.getfield 35, 3) := by decide +kernel
theorem dX7_nextReady_45 : decode cX7_nextReady 45 = .ok (.iload_n 3, 1) := by decide +kernel
theorem dX7_nextReady_46 : decode cX7_nextReady 46 = .ok (.iaload, 1) := by decide +kernel
theorem dX7_nextReady_47 : decode cX7_nextReady 47 = .ok (.aload_n 0, 1) := by decide +kernel
theorem dX7_nextReady_48 : decode cX7_nextReady 48 = .ok (.getfield 35, 3) := by decide +kernel
theorem dX7_nextReady_51 : decode cX7_nextReady 51 = .ok (.iload_n 2, 1) := by decide +kernel
theorem dX7_nextReady_52 : decode cX7_nextReady 52 = .ok (.iaload, 1) := by decide +kernel
theorem dX7_nextReady_53 : decode cX7_nextReady 53 = .ok (.if_icmp .eq 55, 3) := by decide +kernel
theorem dX7_nextReady_56 : decode cX7_nextReady 56 = .ok (.iload_n 1, 1) := by decide +kernel
theorem dX7_nextReady_57 : decode cX7_nextReady 57 = .ok (.ifCond .eq 26, 3) := by decide +kernel
theorem dX7_nextReady_60 : decode cX7_nextReady 60 = .ok (.aload_n 0, 1) := by decide +kernel
theorem dX7_nextReady_61 : decode cX7_nextReady 61 = .ok (.getfield 35, 3) := by decide +kernel
theorem dX7_nextReady_64 : decode cX7_nextReady 64 = .ok (.iload_n 3, 1) := by decide +kernel
theorem dX7_nextReady_65 : decode cX7_nextReady 65 = .ok (.iaload, 1) := by decide +kernel
theorem dX7_nextReady_66 : decode cX7_nextReady 66 = .ok (.aload_n 0, 1) := by decide +kernel
theorem dX7_nextReady_67 : decode cX7_nextReady 67 = .ok (.getfield 35, 3) := by decide +kernel
theorem dX7_nextReady_70 : decode cX7_nextReady 70 = .ok (.iload_n 2, 1) := by decide +kernel
theorem dX7_nextReady_71 : decode cX7_nextReady 71 = .ok (.iaload, 1) := by decide +kernel
theorem dX7_nextReady_72 : decode cX7_nextReady 72 = .ok (.if_icmp .le 7, 3) := by decide +kernel
theorem dX7_nextReady_75 : decode cX7_nextReady 75 = .ok (.iconst 1, 1) := by decide +kernel
theorem dX7_nextReady_76 : decode cX7_nextReady 76 = .ok (.goto 27, 3) := by decide +kernel
theorem dX7_nextReady_79 : decode cX7_nextReady 79 = .ok (.iconst 0, 1) := by decide +kernel
theorem dX7_nextReady_80 : decode cX7_nextReady 80 = .ok (.goto 23, 3) := by decide +kernel
theorem dX7_nextReady_83 : decode cX7_nextReady 83 = .ok (.aload_n 0, 1) := by decide +kernel
theorem dX7_nextReady_84 : decode cX7_nextReady 84 = .ok (.getfield 35, 3) := by decide +kernel
theorem dX7_nextReady_87 : decode cX7_nextReady 87 = .ok (.iload_n 3, 1) := by decide +kernel
theorem dX7_nextReady_88 : decode cX7_nextReady 88 = .ok (.iaload, 1) := by decide +kernel
theorem dX7_nextReady_89 : decode cX7_nextReady 89 = .ok (.aload_n 0, 1) := by decide +kernel
theorem dX7_nextReady_90 : decode cX7_nextReady 90 = .ok (.getfield 35, 3) := by decide +kernel
theorem dX7_nextReady_93 : decode cX7_nextReady 93 = .ok (.iload_n 2, 1) := by decide +kernel
theorem dX7_nextReady_94 : decode cX7_nextReady 94 = .ok (.iaload, 1) := by decide +kernel
theorem dX7_nextReady_95 : decode cX7_nextReady 95 = .ok (.if_icmp .ge 7, 3) := by decide +kernel
theorem dX7_nextReady_98 : decode cX7_nextReady 98 = .ok (.iconst 1, 1) := by decide +kernel
theorem dX7_nextReady_99 : decode cX7_nextReady 99 = .ok (.goto 4, 3) := by decide +kernel
theorem dX7_nextReady_102 : decode cX7_nextReady 102 = .ok (.iconst 0, 1) := by decide +kernel
theorem dX7_nextReady_103 : decode cX7_nextReady 103 = .ok (.istore 4, 2) := by decide +kernel
theorem dX7_nextReady_105 : decode cX7_nextReady 105 = .ok (.goto 30, 3) := by decide +kernel
theorem dX7_nextReady_108 : decode cX7_nextReady 108 = .ok (.iload 4, 2) := by decide +kernel
theorem dX7_nextReady_110 : decode cX7_nextReady 110 = .ok (.ifCond .ne 25, 3) := by decide +kernel
theorem dX7_nextReady_113 : decode cX7_nextReady 113 = .ok (.aload_n 0, 1) := by decide +kernel
theorem dX7_nextReady_114 : decode cX7_nextReady 114 = .ok (.getfield 81, 3) := by decide +kernel
theorem dX7_nextReady_117 : decode cX7_nextReady 117 = .ok (.iload_n 3, 1) := by decide +kernel
theorem dX7_nextReady_118 : decode cX7_nextReady 118 = .ok (.iaload, 1) := by decide +kernel
theorem dX7_nextReady_119 : decode cX7_nextReady 119 = .ok (.aload_n 0, 1) := by decide +kernel
theorem dX7_nextReady_120 : decode cX7_nextReady 120 = .ok (.getfield 81, 3) := by decide +kernel
theorem dX7_nextReady_123 : decode cX7_nextReady 123 = .ok (.iload_n 2, 1) := by decide +kernel
theorem dX7_nextReady_124 : decode cX7_nextReady 124 = .ok (.iaload, 1) := by decide +kernel
theorem dX7_nextReady_125 : decode cX7_nextReady 125 = .ok (.if_icmp .ge 7, 3) := by decide +kernel
theorem dX7_nextReady_128 : decode cX7_nextReady 128 = .ok (.iconst 1, 1) := by decide +kernel
theorem dX7_nextReady_129 : decode cX7_nextReady 129 = .ok (.goto 4, 3) := by decide +kernel
theorem dX7_nextReady_132 : decode cX7_nextReady 132 = .ok (.iconst 0, 1) := by decide +kernel
theorem dX7_nextReady_133 : decode cX7_nextReady 133 = .ok (.istore 4, 2) := by decide +kernel
theorem dX7_nextReady_135 : decode cX7_nextReady 135 = .ok (.iload 4, 2) := by decide +kernel
theorem dX7_nextReady_137 : decode cX7_nextReady 137 = .ok (.ifCond .eq 7, 3) := by decide +kernel
theorem dX7_nextReady_140 : decode cX7_nextReady 140 = .ok (.iload_n 3, 1) := by decide +kernel
theorem dX7_nextReady_141 : decode cX7_nextReady 141 = .ok (.goto 4, 3) := by decide +kernel
theorem dX7_nextReady_144 : decode cX7_nextReady 144 = .ok (.iload_n 2, 1) := by decide +kernel
theorem dX7_nextReady_145 : decode cX7_nextReady 145 = .ok (.istore_n 2, 1) := by decide +kernel
theorem dX7_nextReady_146 : decode cX7_nextReady 146 = .ok (.iinc 3 1, 3) := by decide +kernel
theorem dX7_nextReady_149 : decode cX7_nextReady 149 = .ok (.goto (-145), 3) := by decide +kernel
theorem dX7_nextReady_152 : decode cX7_nextReady 152 = .ok (.iload_n 2, 1) := by decide +kernel
theorem dX7_nextReady_153 : decode cX7_nextReady 153 = .ok (.ireturn, 1) := by decide +kernel
theorem dX7_run_0 : decode cX7_run 0 = .ok (.aload_n 0, 1) := by decide +kernel
theorem dX7_run_1 : decode cX7_run 1 = .ok (.iload_n 1, 1) := by decide +kernel
theorem dX7_run_2 : decode cX7_run 2 = .ok (.iconst 0, 1) := by decide +kernel
theorem dX7_run_3 : decode cX7_run 3 = .ok (.bipush 60, 2) := by decide +kernel
theorem dX7_run_5 : decode cX7_run 5 = .ok (.invokestatic 110, 3) := by decide +kernel
theorem dX7_run_8 : decode cX7_run 8 = .ok (.ifCond .ne 7, 3) := by decide +kernel
theorem dX7_run_11 : decode cX7_run 11 = .ok (.iconst 1, 1) := by decide +kernel
theorem dX7_run_12 : decode cX7_run 12 = .ok (.goto 4, 3) := by decide +kernel
theorem dX7_run_15 : decode cX7_run 15 = .ok (.iconst 0, 1) := by decide +kernel
theorem dX7_run_16 : decode cX7_run 16 = .ok (.iconst 1, 1) := by decide +kernel
theorem dX7_run_17 : decode cX7_run 17 = .ok (.invokevirtual 114, 3) := by decide +kernel
theorem dX7_run_20 : decode cX7_run 20 = .ok (.ifCond .eq 5, 3) := by decide +kernel
theorem dX7_run_23 : decode cX7_run 23 = .ok (.iconst 0, 1) := by decide +kernel
theorem dX7_run_24 : decode cX7_run 24 = .ok (.ireturn, 1) := by decide +kernel
theorem dX7_run_25 : decode cX7_run 25 = .ok (.iconst 0, 1) := by decide +kernel
theorem dX7_run_26 : decode cX7_run 26 = .ok (.istore_n 2, 1) := by decide +kernel
theorem dX7_run_27 : decode cX7_run 27 = .ok (.iload_n 2, 1) := by decide +kernel
theorem dX7_run_28 : decode cX7_run 28 = .ok (.iload_n 1, 1) := by decide +kernel
theorem dX7_run_29 : decode cX7_run 29 = .ok (.if_icmp .ge 127, 3) := by decide +kernel
theorem dX7_run_32 : decode cX7_run 32 = .ok (.aload_n 0, 1) := by decide +kernel
theorem dX7_run_33 : decode cX7_run 33 = .ok (.aload_n 0, 1) := by decide +kernel
theorem dX7_run_34 : decode cX7_run 34 = .ok (.getfield 263, 3) := by decide +kernel
theorem dX7_run_37 : decode cX7_run 37 = .ok (.iconst 1, 1) := by decide +kernel
theorem dX7_run_38 : decode cX7_run 38 = .ok (.iadd, 1) := by decide +kernel
theorem dX7_run_39 : decode cX7_run 39 = .ok (.bipush 8, 2) := by decide +kernel
theorem dX7_run_41 : decode cX7_run 41 = .ok (.irem, 1) := by decide +kernel
theorem dX7_run_42 : decode cX7_run 42 = .ok (.ifCond .ne 7, 3) := by decide +kernel
theorem dX7_run_45 : decode cX7_run 45 = .ok (.iconst 1, 1) := by decide +kernel
theorem dX7_run_46 : decode cX7_run 46 = .ok (.goto 4, 3) := by decide +kernel
theorem dX7_run_49 : decode cX7_run 49 = .ok (.iconst 0, 1) := by decide +kernel
theorem dX7_run_50 : decode cX7_run 50 = .ok (.invokevirtual 266, 3) := by decide +kernel
theorem dX7_run_53 : decode cX7_run 53 = .ok (.istore_n 3, 1) := by decide +kernel
theorem dX7_run_54 : decode cX7_run 54 = .ok (.iload_n 3, 1) := by decide +kernel
theorem dX7_run_55 : decode cX7_run 55 = .ok (.iconst (-1), 1) := by decide +kernel
theorem dX7_run_56 : decode cX7_run 56 = .ok (.if_icmp .ne 6, 3) := by decide +kernel
theorem dX7_run_59 : decode cX7_run 59 = .ok (.goto 97, 3) := by decide +kernel
theorem dX7_run_62 : decode cX7_run 62 = .ok (.aload_n 0, 1) := by decide +kernel
theorem dX7_run_63 : decode cX7_run 63 = .ok (.dup, 1) := by decide +kernel
theorem dX7_run_64 : decode cX7_run 64 = .ok (.getfield 263, 3) := by decide +kernel
theorem dX7_run_67 : decode cX7_run 67 = .ok (.iconst 1, 1) := by decide +kernel
theorem dX7_run_68 : decode cX7_run 68 = .ok (.iadd, 1) := by decide +kernel
theorem dX7_run_69 : decode cX7_run 69 = .ok (.putfield 263, 3) := by decide +kernel
theorem dX7_run_72 : decode cX7_run 72 = .ok (.iinc 2 1, 3) := by decide +kernel
theorem dX7_run_75 : decode cX7_run 75 = .ok (.iconst 1, 1) := by decide +kernel
theorem dX7_run_76 : decode cX7_run 76 = .ok (.istore 4, 2) := by decide +kernel
theorem dX7_run_78 : decode cX7_run 78 = .ok (.iconst 0, 1) := by decide +kernel
theorem dX7_run_79 : decode cX7_run 79 = .ok (.istore 5, 2) := by decide +kernel
theorem dX7_run_81 : decode cX7_run 81 = .ok (.iload 5, 2) := by decide +kernel
theorem dX7_run_83 : decode cX7_run 83 = .ok (.bipush 12, 2) := by decide +kernel
theorem dX7_run_85 : decode cX7_run 85 = .ok (.if_icmp .ge 54, 3) := by decide +kernel
theorem dX7_run_88 : decode cX7_run 88 = .ok (.iload 4, 2) := by decide +kernel
theorem dX7_run_90 : decode cX7_run 90 = .ok (.ifCond .eq 49, 3) := by decide +kernel
theorem dX7_run_93 : decode cX7_run 93 = .ok (.aload_n 0, 1) := by decide +kernel
theorem dX7_run_94 : decode cX7_run 94 = .ok (.getfield 81, 3) := by decide +kernel
theorem dX7_run_97 : decode cX7_run 97 = .ok (.iload_n 3, 1) := by decide +kernel
theorem dX7_run_98 : decode cX7_run 98 = .ok (.iaload, 1) := by decide +kernel
theorem dX7_run_99 : decode cX7_run 99 = .ok (.istore 6, 2) := by decide +kernel
theorem dX7_run_101 : decode cX7_run 101 = .ok (.aload_n 0, 1) := by decide +kernel
theorem dX7_run_102 : decode cX7_run 102 = .ok (.iload_n 3, 1) := by decide +kernel
theorem dX7_run_103 : decode cX7_run 103 = .ok (.invokevirtual 270, 3) := by decide +kernel
theorem dX7_run_106 : decode cX7_run 106 = .ok (.aload_n 0, 1) := by decide +kernel
theorem dX7_run_107 : decode cX7_run 107 = .ok (.getfield 29, 3) := by decide +kernel
theorem dX7_run_110 : decode cX7_run 110 = .ok (.iload_n 3, 1) := by decide +kernel
theorem dX7_run_111 : decode cX7_run 111 = .ok (.iaload, 1) := by decide +kernel
theorem dX7_run_112 : decode cX7_run 112 = .ok (.ifCond .ne 18, 3) := by decide +kernel
theorem dX7_run_115 : decode cX7_run 115 = .ok (.aload_n 0, 1) := by decide +kernel
theorem dX7_run_116 : decode cX7_run 116 = .ok (.getfield 81, 3) := by decide +kernel
theorem dX7_run_119 : decode cX7_run 119 = .ok (.iload_n 3, 1) := by decide +kernel
theorem dX7_run_120 : decode cX7_run 120 = .ok (.iaload, 1) := by decide +kernel
theorem dX7_run_121 : decode cX7_run 121 = .ok (.iload 6, 2) := by decide +kernel
theorem dX7_run_123 : decode cX7_run 123 = .ok (.if_icmp .ne 7, 3) := by decide +kernel
theorem dX7_run_126 : decode cX7_run 126 = .ok (.iconst 1, 1) := by decide +kernel
theorem dX7_run_127 : decode cX7_run 127 = .ok (.goto 4, 3) := by decide +kernel
theorem dX7_run_130 : decode cX7_run 130 = .ok (.iconst 0, 1) := by decide +kernel
theorem dX7_run_131 : decode cX7_run 131 = .ok (.istore 4, 2) := by decide +kernel
theorem dX7_run_133 : decode cX7_run 133 = .ok (.iinc 5 1, 3) := by decide +kernel
theorem dX7_run_136 : decode cX7_run 136 = .ok (.goto (-55), 3) := by decide +kernel
theorem dX7_run_139 : decode cX7_run 139 = .ok (.aload_n 0, 1) := by decide +kernel
theorem dX7_run_140 : decode cX7_run 140 = .ok (.getfield 29, 3) := by decide +kernel
theorem dX7_run_143 : decode cX7_run 143 = .ok (.iload_n 3, 1) := by decide +kernel
theorem dX7_run_144 : decode cX7_run 144 = .ok (.iaload, 1) := by decide +kernel
theorem dX7_run_145 : decode cX7_run 145 = .ok (.ifCond .ne 8, 3) := by decide +kernel
theorem dX7_run_148 : decode cX7_run 148 = .ok (.aload_n 0, 1) := by decide +kernel
theorem dX7_run_149 : decode cX7_run 149 = .ok (.iload_n 3, 1) := by decide +kernel
theorem dX7_run_150 : decode cX7_run 150 = .ok (.invokevirtual 128, 3) := by decide +kernel
theorem dX7_run_153 : decode cX7_run 153 = .ok (.goto (-126), 3) := by decide +kernel
theorem dX7_run_156 : decode cX7_run 156 = .ok (.iload_n 2, 1) := by decide +kernel
theorem dX7_run_157 : decode cX7_run 157 = .ok (.ireturn, 1) := by decide +kernel
theorem dX7_pass_0 : decode cX7_pass 0 = .ok (.aload_n 0, 1) := by decide +kernel
theorem dX7_pass_1 : decode cX7_pass 1 = .ok (.iload_n 1, 1) := by decide +kernel
theorem dX7_pass_2 : decode cX7_pass 2 = .ok (.iconst 0, 1) := by decide +kernel
theorem dX7_pass_3 : decode cX7_pass 3 = .ok (.sipush 10000, 3) := by decide +kernel
theorem dX7_pass_6 : decode cX7_pass 6 = .ok (.invokestatic 110, 3) := by decide +kernel
theorem dX7_pass_9 : decode cX7_pass 9 = .ok (.ifCond .ne 7, 3) := by decide +kernel
theorem dX7_pass_12 : decode cX7_pass 12 = .ok (.iconst 1, 1) := by decide +kernel
theorem dX7_pass_13 : decode cX7_pass 13 = .ok (.goto 4, 3) := by decide +kernel
theorem dX7_pass_16 : decode cX7_pass 16 = .ok (.iconst 0, 1) := by decide +kernel
theorem dX7_pass_17 : decode cX7_pass 17 = .ok (.iconst 1, 1) := by decide +kernel
theorem dX7_pass_18 : decode cX7_pass 18 = .ok (.invokevirtual 114, 3) := by decide +kernel
theorem dX7_pass_21 : decode cX7_pass 21 = .ok (.ifCond .eq 5, 3) := by decide +kernel
theorem dX7_pass_24 : decode cX7_pass 24 = .ok (.iconst 0, 1) := by decide +kernel
theorem dX7_pass_25 : decode cX7_pass 25 = .ok (.ireturn, 1) := by decide +kernel
theorem dX7_pass_26 : decode cX7_pass 26 = .ok (.aload_n 0, 1) := by decide +kernel
theorem dX7_pass_27 : decode cX7_pass 27 = .ok (.dup, 1) := by decide +kernel
theorem dX7_pass_28 : decode cX7_pass 28 = .ok (.getfield 251, 3) := by decide +kernel
theorem dX7_pass_31 : decode cX7_pass 31 = .ok (.iload_n 1, 1) := by decide +kernel
theorem dX7_pass_32 : decode cX7_pass 32 = .ok (.iadd, 1) := by decide +kernel
theorem dX7_pass_33 : decode cX7_pass 33 = .ok (.putfield 251, 3) := by decide +kernel
theorem dX7_pass_36 : decode cX7_pass 36 = .ok (.iconst 0, 1) := by decide +kernel
theorem dX7_pass_37 : decode cX7_pass 37 = .ok (.istore_n 2, 1) := by decide +kernel
theorem dX7_pass_38 : decode cX7_pass 38 = .ok (.iconst (-1), 1) := by decide +kernel
theorem dX7_pass_39 : decode cX7_pass 39 = .ok (.istore_n 3, 1) := by decide +kernel
theorem dX7_pass_40 : decode cX7_pass 40 = .ok (.iconst 0, 1) := by decide +kernel
theorem dX7_pass_41 : decode cX7_pass 41 = .ok (.istore 4, 2) := by decide +kernel
theorem dX7_pass_43 : decode cX7_pass 43 = .ok (.iload 4, 2) := by decide +kernel
theorem dX7_pass_45 : decode cX7_pass 45 = .ok (.aload_n 0, 1) := by decide +kernel
theorem dX7_pass_46 : decode cX7_pass 46 = .ok (.getfield 121, 3) := by decide +kernel
theorem dX7_pass_49 : decode cX7_pass 49 = .ok (.if_icmp .ge 68, 3) := by decide +kernel
theorem dX7_pass_52 : decode cX7_pass 52 = .ok (.aload_n 0, 1) := by decide +kernel
theorem dX7_pass_53 : decode cX7_pass 53 = .ok (.getfield 29, 3) := by decide +kernel
theorem dX7_pass_56 : decode cX7_pass 56 = .ok (.iload 4, 2) := by decide +kernel
theorem dX7_pass_58 : decode cX7_pass 58 = .ok (.iaload, 1) := by decide +kernel
theorem dX7_pass_59 : decode cX7_pass 59 = .ok (.iconst 1, 1) := by decide +kernel
theorem dX7_pass_60 : decode cX7_pass 60 = .ok (.if_icmp .ne 51, 3) := by decide +kernel
theorem dX7_pass_63 : decode cX7_pass 63 = .ok (.aload_n 0, 1) := by decide +kernel
theorem dX7_pass_64 : decode cX7_pass 64 = .ok (.getfield 78, 3) := by decide +kernel
theorem dX7_pass_67 : decode cX7_pass 67 = .ok (.iload 4, 2) := by decide +kernel
theorem dX7_pass_69 : decode cX7_pass 69 = .ok (.baload, 1) := by decide +kernel
theorem dX7_pass_70 : decode cX7_pass 70 = .ok (.ifCond .eq 41, 3) := by decide +kernel
theorem dX7_pass_73 : decode cX7_pass 73 = .ok (.aload_n 0, 1) := by decide +kernel
theorem dX7_pass_74 : decode cX7_pass 74 = .ok (.getfield 75, 3) := by decide +kernel
theorem dX7_pass_77 : decode cX7_pass 77 = .ok (.iload 4, 2) := by decide +kernel
theorem dX7_pass_79 : decode cX7_pass 79 = .ok (.iaload, 1) := by decide +kernel
theorem dX7_pass_80 : decode cX7_pass 80 = .ok (.aload_n 0, 1) := by decide +kernel
theorem dX7_pass_81 : decode cX7_pass 81 = .ok (.getfield 251, 3) := by decide +kernel
theorem dX7_pass_84 : decode cX7_pass 84 = .ok (.if_icmp .gt 27, 3) := by decide +kernel
theorem dX7_pass_87 : decode cX7_pass 87 = .ok (.iload_n 3, 1) := by decide +kernel
theorem dX7_pass_88 : decode cX7_pass 88 = .ok (.iconst (-1), 1) := by decide +kernel
theorem dX7_pass_89 : decode cX7_pass 89 = .ok (.if_icmp .eq 19, 3) := by decide +kernel
theorem dX7_pass_92 : decode cX7_pass 92 = .ok (.aload_n 0, 1) := by decide +kernel
theorem dX7_pass_93 : decode cX7_pass 93 = .ok (.getfield 75, 3) := by decide +kernel
theorem dX7_pass_96 : decode cX7_pass 96 = .ok (.iload 4, 2) := by decide +kernel
theorem dX7_pass_98 : decode cX7_pass 98 = .ok (.iaload, 1) := by decide +kernel
theorem dX7_pass_99 : decode cX7_pass 99 = .ok (.aload_n 0, 1) := by decide +kernel
theorem dX7_pass_100 : decode cX7_pass 100 = .ok (.getfield 75, 3) := by decide +kernel
theorem dX7_pass_103 : decode cX7_pass 103 = .ok (.iload_n 3, 1) := by decide +kernel
theorem dX7_pass_104 : decode cX7_pass 104 = .ok (.iaload, 1) := by decide +kernel
theorem dX7_pass_105 : decode cX7_pass 105 = .ok (.if_icmp .ge 6, 3) := by decide +kernel
theorem dX7_pass_108 : decode cX7_pass 108 = .ok (.iload 4, 2) := by decide +kernel
theorem dX7_pass_110 : decode cX7_pass 110 = .ok (.istore_n 3, 1) := by decide +kernel
theorem dX7_pass_111 : decode cX7_pass 111 = .ok (.iinc 4 1, 3) := by decide +kernel
theorem dX7_pass_114 : decode cX7_pass 114 = .ok (.goto (-71), 3) := by decide +kernel
theorem dX7_pass_117 : decode cX7_pass 117 = .ok (.iload_n 3, 1) := by decide +kernel
theorem dX7_pass_118 : decode cX7_pass 118 = .ok (.iconst (-1), 1) := by decide +kernel
theorem dX7_pass_119 : decode cX7_pass 119 = .ok (.if_icmp .ne 5, 3) := by decide +kernel
theorem dX7_pass_122 : decode cX7_pass 122 = .ok (.iload_n 2, 1) := by decide +kernel
theorem dX7_pass_123 : decode cX7_pass 123 = .ok (.ireturn, 1) := by decide +kernel
theorem dX7_pass_124 : decode cX7_pass 124 = .ok (.aload_n 0, 1) := by decide +kernel
theorem dX7_pass_125 : decode cX7_pass 125 = .ok (.getfield 78, 3) := by decide +kernel
theorem dX7_pass_128 : decode cX7_pass 128 = .ok (.iload_n 3, 1) := by decide +kernel
theorem dX7_pass_129 : decode cX7_pass 129 = .ok (.iconst 0, 1) := by decide +kernel
theorem dX7_pass_130 : decode cX7_pass 130 = .ok (.bastore, 1) := by decide +kernel
theorem dX7_pass_131 : decode cX7_pass 131 = .ok (.aload_n 0, 1) := by decide +kernel
theorem dX7_pass_132 : decode cX7_pass 132 = .ok (.getfield 32, 3) := by decide +kernel
theorem dX7_pass_135 : decode cX7_pass 135 = .ok (.iload_n 3, 1) := by decide +kernel
theorem dX7_pass_136 : decode cX7_pass 136 = .ok (.aload_n 0, 1) := by decide +kernel
theorem dX7_pass_137 : decode cX7_pass 137 = .ok (.getfield 72, 3) := by decide +kernel
theorem dX7_pass_140 : decode cX7_pass 140 = .ok (.iload_n 3, 1) := by decide +kernel
theorem dX7_pass_141 : decode cX7_pass 141 = .ok (.iaload, 1) := by decide +kernel
theorem dX7_pass_142 : decode cX7_pass 142 = .ok (.iastore, 1) := by decide +kernel
theorem dX7_pass_143 : decode cX7_pass 143 = .ok (.aload_n 0, 1) := by decide +kernel
theorem dX7_pass_144 : decode cX7_pass 144 = .ok (.getfield 48, 3) := by decide +kernel
theorem dX7_pass_147 : decode cX7_pass 147 = .ok (.iload_n 3, 1) := by decide +kernel
theorem dX7_pass_148 : decode cX7_pass 148 = .ok (.iconst 0, 1) := by decide +kernel
theorem dX7_pass_149 : decode cX7_pass 149 = .ok (.iastore, 1) := by decide +kernel
theorem dX7_pass_150 : decode cX7_pass 150 = .ok (.aload_n 0, 1) := by decide +kernel
theorem dX7_pass_151 : decode cX7_pass 151 = .ok (.iload_n 3, 1) := by decide +kernel
theorem dX7_pass_152 : decode cX7_pass 152 = .ok (.invokevirtual 128, 3) := by decide +kernel
theorem dX7_pass_155 : decode cX7_pass 155 = .ok (.iinc 2 1, 3) := by decide +kernel
theorem dX7_pass_158 : decode cX7_pass 158 = .ok (.goto (-120), 3) := by decide +kernel
theorem dX7_out_0 : decode cX7_out 0 = .ok (.aload_n 0, 1) := by decide +kernel
theorem dX7_out_1 : decode cX7_out 1 = .ok (.iconst 0, 1) := by decide +kernel
theorem dX7_out_2 : decode cX7_out 2 = .ok (.putfield 102, 3) := by decide +kernel
theorem dX7_out_5 : decode cX7_out 5 = .ok (.iload_n 1, 1) := by decide +kernel
theorem dX7_out_6 : decode cX7_out 6 = .ok (.ifCond .lt 27, 3) := by decide +kernel
theorem dX7_out_9 : decode cX7_out 9 = .ok (.iload_n 1, 1) := by decide +kernel
theorem dX7_out_10 : decode cX7_out 10 = .ok (.aload_n 0, 1) := by decide +kernel
theorem dX7_out_11 : decode cX7_out 11 = .ok (.getfield 260, 3) := by decide +kernel
theorem dX7_out_14 : decode cX7_out 14 = .ok (.if_icmp .ge 19, 3) := by decide +kernel
theorem dX7_out_17 : decode cX7_out 17 = .ok (.iload_n 1, 1) := by decide +kernel
theorem dX7_out_18 : decode cX7_out 18 = .ok (.sipush 600, 3) := by decide +kernel
theorem dX7_out_21 : decode cX7_out 21 = .ok (.if_icmp .ge 12, 3) := by decide +kernel
theorem dX7_out_24 : decode cX7_out 24 = .ok (.aload_n 0, 1) := by decide +kernel
theorem dX7_out_25 : decode cX7_out 25 = .ok (.getfield 99, 3) := by decide +kernel
theorem dX7_out_28 : decode cX7_out 28 = .ok (.iload_n 1, 1) := by decide +kernel
theorem dX7_out_29 : decode cX7_out 29 = .ok (.iaload, 1) := by decide +kernel
theorem dX7_out_30 : decode cX7_out 30 = .ok (.goto 4, 3) := by decide +kernel
theorem dX7_out_33 : decode cX7_out 33 = .ok (.iconst (-1), 1) := by decide +kernel
theorem dX7_out_34 : decode cX7_out 34 = .ok (.ireturn, 1) := by decide +kernel
theorem dX7_process_0 : decode cX7_process 0 = .ok (.aload_n 0, 1) := by decide +kernel
theorem dX7_process_1 : decode cX7_process 1 = .ok (.aload_n 0, 1) := by decide +kernel
theorem dX7_process_2 : decode cX7_process 2 = .ok (.iload_n 1, 1) := by decide +kernel
theorem dX7_process_3 : decode cX7_process 3 = .ok (.invokevirtual 143, 3) := by decide +kernel
theorem dX7_process_6 : decode cX7_process 6 = .ok (.ifCond .eq 13, 3) := by decide +kernel
theorem dX7_process_9 : decode cX7_process 9 = .ok (.iload_n 2, 1) := by decide +kernel
theorem dX7_process_10 : decode cX7_process 10 = .ok (.iconst 0, 1) := by decide +kernel
theorem dX7_process_11 : decode cX7_process 11 = .ok (.bipush 10, 2) := by decide +kernel
theorem dX7_process_13 : decode cX7_process 13 = .ok (.invokestatic 110, 3) := by decide +kernel
theorem dX7_process_16 : decode cX7_process 16 = .ok (.ifCond .ne 7, 3) := by decide +kernel
theorem dX7_process_19 : decode cX7_process 19 = .ok (.iconst 1, 1) := by decide +kernel
theorem dX7_process_20 : decode cX7_process 20 = .ok (.goto 4, 3) := by decide +kernel
theorem dX7_process_23 : decode cX7_process 23 = .ok (.iconst 0, 1) := by decide +kernel
theorem dX7_process_24 : decode cX7_process 24 = .ok (.iconst 1, 1) := by decide +kernel
theorem dX7_process_25 : decode cX7_process 25 = .ok (.invokevirtual 114, 3) := by decide +kernel
theorem dX7_process_28 : decode cX7_process 28 = .ok (.ifCond .eq 5, 3) := by decide +kernel
theorem dX7_process_31 : decode cX7_process 31 = .ok (.iconst 0, 1) := by decide +kernel
theorem dX7_process_32 : decode cX7_process 32 = .ok (.ireturn, 1) := by decide +kernel
theorem dX7_process_33 : decode cX7_process 33 = .ok (.iload_n 1, 1) := by decide +kernel
theorem dX7_process_34 : decode cX7_process 34 = .ok (.iconst 1, 1) := by decide +kernel
theorem dX7_process_35 : decode cX7_process 35 = .ok (.isub, 1) := by decide +kernel
theorem dX7_process_36 : decode cX7_process 36 = .ok (.istore_n 3, 1) := by decide +kernel
theorem dX7_process_37 : decode cX7_process 37 = .ok (.iconst 0, 1) := by decide +kernel
theorem dX7_process_38 : decode cX7_process 38 = .ok (.istore 4, 2) := by decide +kernel
theorem dX7_process_40 : decode cX7_process 40 = .ok (.iconst 0, 1) := by decide +kernel
theorem dX7_process_41 : decode cX7_process 41 = .ok (.istore 5, 2) := by decide +kernel
theorem dX7_process_43 : decode cX7_process 43 = .ok (.iload 5, 2) := by decide +kernel
theorem dX7_process_45 : decode cX7_process 45 = .ok (.aload_n 0, 1) := by decide +kernel
theorem dX7_process_46 : decode cX7_process 46 = .ok (.getfield 121, 3) := by decide +kernel
theorem dX7_process_49 : decode cX7_process 49 = .ok (.if_icmp .ge 34, 3) := by decide +kernel
theorem dX7_process_52 : decode cX7_process 52 = .ok (.iload 4, 2) := by decide +kernel
theorem dX7_process_54 : decode cX7_process 54 = .ok (.aload_n 0, 1) := by decide +kernel
theorem dX7_process_55 : decode cX7_process 55 = .ok (.getfield 84, 3) := by decide +kernel
theorem dX7_process_58 : decode cX7_process 58 = .ok (.bipush 60, 2) := by decide +kernel
theorem dX7_process_60 : decode cX7_process 60 = .ok (.iload_n 3, 1) := by decide +kernel
theorem dX7_process_61 : decode cX7_process 61 = .ok (.imul, 1) := by decide +kernel
theorem dX7_process_62 : decode cX7_process 62 = .ok (.iload 5, 2) := by decide +kernel
theorem dX7_process_64 : decode cX7_process 64 = .ok (.iadd, 1) := by decide +kernel
theorem dX7_process_65 : decode cX7_process 65 = .ok (.baload, 1) := by decide +kernel
theorem dX7_process_66 : decode cX7_process 66 = .ok (.ifCond .eq 7, 3) := by decide +kernel
theorem dX7_process_69 : decode cX7_process 69 = .ok (.iconst 1, 1) := by decide +kernel
theorem dX7_process_70 : decode cX7_process 70 = .ok (.goto 4, 3) := by decide +kernel
theorem dX7_process_73 : decode cX7_process 73 = .ok (.iconst 0, 1) := by decide +kernel
theorem dX7_process_74 : decode cX7_process 74 = .ok (.iadd, 1) := by decide +kernel
theorem dX7_process_75 : decode cX7_process 75 = .ok (.istore 4, 2) := by decide +kernel
theorem dX7_process_77 : decode cX7_process 77 = .ok (.iinc 5 1, 3) := by decide +kernel
theorem dX7_process_80 : decode cX7_process 80 = .ok (.goto (-37), 3) := by decide +kernel
theorem dX7_process_83 : decode cX7_process 83 = .ok (.iload_n 2, 1) := by decide +kernel
theorem dX7_process_84 : decode cX7_process 84 = .ok (.tableswitch 130 0 9 #[56, 63, 70, 77, 84, 99, 106, 113, 116, 123], 56) := by decide +kernel
theorem dX7_process_140 : decode cX7_process 140 = .ok (.aload_n 0, 1) := by decide +kernel
theorem dX7_process_141 : decode cX7_process 141 = .ok (.getfield 29, 3) := by decide +kernel
theorem dX7_process_144 : decode cX7_process 144 = .ok (.iload_n 3, 1) := by decide +kernel
theorem dX7_process_145 : decode cX7_process 145 = .ok (.iaload, 1) := by decide +kernel
theorem dX7_process_146 : decode cX7_process 146 = .ok (.ireturn, 1) := by decide +kernel
theorem dX7_process_147 : decode cX7_process 147 = .ok (.aload_n 0, 1) := by decide +kernel
theorem dX7_process_148 : decode cX7_process 148 = .ok (.getfield 32, 3) := by decide +kernel
theorem dX7_process_151 : decode cX7_process 151 = .ok (.iload_n 3, 1) := by decide +kernel
theorem dX7_process_152 : decode cX7_process 152 = .ok (.iaload, 1) := by decide +kernel
theorem dX7_process_153 : decode cX7_process 153 = .ok (.ireturn, 1) := by decide +kernel
theorem dX7_process_154 : decode cX7_process 154 = .ok (.aload_n 0, 1) := by decide +kernel
theorem dX7_process_155 : decode cX7_process 155 = .ok (.getfield 35, 3) := by decide +kernel
theorem dX7_process_158 : decode cX7_process 158 = .ok (.iload_n 3, 1) := by decide +kernel
theorem dX7_process_159 : decode cX7_process 159 = .ok (.iaload, 1) := by decide +kernel
theorem dX7_process_160 : decode cX7_process 160 = .ok (.ireturn, 1) := by decide +kernel
theorem dX7_process_161 : decode cX7_process 161 = .ok (.aload_n 0, 1) := by decide +kernel
theorem dX7_process_162 : decode cX7_process 162 = .ok (.getfield 38, 3) := by decide +kernel
theorem dX7_process_165 : decode cX7_process 165 = .ok (.iload_n 3, 1) := by decide +kernel
theorem dX7_process_166 : decode cX7_process 166 = .ok (.iaload, 1) := by decide +kernel
theorem dX7_process_167 : decode cX7_process 167 = .ok (.ireturn, 1) := by decide +kernel
theorem dX7_process_168 : decode cX7_process 168 = .ok (.aload_n 0, 1) := by decide +kernel
theorem dX7_process_169 : decode cX7_process 169 = .ok (.getfield 41, 3) := by decide +kernel
theorem dX7_process_172 : decode cX7_process 172 = .ok (.iload_n 3, 1) := by decide +kernel
theorem dX7_process_173 : decode cX7_process 173 = .ok (.baload, 1) := by decide +kernel
theorem dX7_process_174 : decode cX7_process 174 = .ok (.ifCond .eq 7, 3) := by decide +kernel
theorem dX7_process_177 : decode cX7_process 177 = .ok (.iconst 1, 1) := by decide +kernel
theorem dX7_process_178 : decode cX7_process 178 = .ok (.goto 4, 3) := by decide +kernel
theorem dX7_process_181 : decode cX7_process 181 = .ok (.iconst 0, 1) := by decide +kernel
theorem dX7_process_182 : decode cX7_process 182 = .ok (.ireturn, 1) := by decide +kernel
theorem dX7_process_183 : decode cX7_process 183 = .ok (.aload_n 0, 1) := by decide +kernel
theorem dX7_process_184 : decode cX7_process 184 = .ok (.getfield 45, 3) := by decide +kernel
theorem dX7_process_187 : decode cX7_process 187 = .ok (.iload_n 3, 1) := by decide +kernel
theorem dX7_process_188 : decode cX7_process 188 = .ok (.iaload, 1) := by decide +kernel
theorem dX7_process_189 : decode cX7_process 189 = .ok (.ireturn, 1) := by decide +kernel
theorem dX7_process_190 : decode cX7_process 190 = .ok (.aload_n 0, 1) := by decide +kernel
theorem dX7_process_191 : decode cX7_process 191 = .ok (.getfield 48, 3) := by decide +kernel
theorem dX7_process_194 : decode cX7_process 194 = .ok (.iload_n 3, 1) := by decide +kernel
theorem dX7_process_195 : decode cX7_process 195 = .ok (.iaload, 1) := by decide +kernel
theorem dX7_process_196 : decode cX7_process 196 = .ok (.ireturn, 1) := by decide +kernel
theorem dX7_process_197 : decode cX7_process 197 = .ok (.iload 4, 2) := by decide +kernel
theorem dX7_process_199 : decode cX7_process 199 = .ok (.ireturn, 1) := by decide +kernel
theorem dX7_process_200 : decode cX7_process 200 = .ok (.aload_n 0, 1) := by decide +kernel
theorem dX7_process_201 : decode cX7_process 201 = .ok (.getfield 54, 3) := by decide +kernel
theorem dX7_process_204 : decode cX7_process 204 = .ok (.iload_n 3, 1) := by decide +kernel
theorem dX7_process_205 : decode cX7_process 205 = .ok (.iaload, 1) := by decide +kernel
theorem dX7_process_206 : decode cX7_process 206 = .ok (.ireturn, 1) := by decide +kernel
theorem dX7_process_207 : decode cX7_process 207 = .ok (.aload_n 0, 1) := by decide +kernel
theorem dX7_process_208 : decode cX7_process 208 = .ok (.getfield 63, 3) := by decide +kernel
theorem dX7_process_211 : decode cX7_process 211 = .ok (.iload_n 3, 1) := by decide +kernel
theorem dX7_process_212 : decode cX7_process 212 = .ok (.iaload, 1) := by decide +kernel
theorem dX7_process_213 : decode cX7_process 213 = .ok (.ireturn, 1) := by decide +kernel
theorem dX7_process_214 : decode cX7_process 214 = .ok (.aload_n 0, 1) := by decide +kernel
theorem dX7_process_215 : decode cX7_process 215 = .ok (.getfield 66, 3) := by decide +kernel
theorem dX7_process_218 : decode cX7_process 218 = .ok (.iload_n 3, 1) := by decide +kernel
theorem dX7_process_219 : decode cX7_process 219 = .ok (.iaload, 1) := by decide +kernel
theorem dX7_process_220 : decode cX7_process 220 = .ok (.ireturn, 1) := by decide +kernel
theorem dX7_numberOf_0 : decode cX7_numberOf 0 = .ok (.iload_n 2, 1) := by decide +kernel
theorem dX7_numberOf_1 : decode cX7_numberOf 1 = .ok (.ifCond .lt 27, 3) := by decide +kernel
theorem dX7_numberOf_4 : decode cX7_numberOf 4 = .ok (.iload_n 2, 1) := by decide +kernel
theorem dX7_numberOf_5 : decode cX7_numberOf 5 = .ok (.aload_n 0, 1) := by decide +kernel
theorem dX7_numberOf_6 : decode cX7_numberOf 6 = .ok (.getfield 14, 3) := by decide +kernel
theorem dX7_numberOf_9 : decode cX7_numberOf 9 = .ok (.iload_n 1, 1) := by decide +kernel
theorem dX7_numberOf_10 : decode cX7_numberOf 10 = .ok (.iaload, 1) := by decide +kernel
theorem dX7_numberOf_11 : decode cX7_numberOf 11 = .ok (.if_icmp .ge 17, 3) := by decide +kernel
theorem dX7_numberOf_14 : decode cX7_numberOf 14 = .ok (.aload_n 0, 1) := by decide +kernel
theorem dX7_numberOf_15 : decode cX7_numberOf 15 = .ok (.getfield 8, 3) := by decide +kernel
theorem dX7_numberOf_18 : decode cX7_numberOf 18 = .ok (.bipush 95, 2) := by decide +kernel
theorem dX7_numberOf_20 : decode cX7_numberOf 20 = .ok (.iload_n 1, 1) := by decide +kernel
theorem dX7_numberOf_21 : decode cX7_numberOf 21 = .ok (.imul, 1) := by decide +kernel
theorem dX7_numberOf_22 : decode cX7_numberOf 22 = .ok (.iload_n 2, 1) := by decide +kernel
theorem dX7_numberOf_23 : decode cX7_numberOf 23 = .ok (.iadd, 1) := by decide +kernel
theorem dX7_numberOf_24 : decode cX7_numberOf 24 = .ok (.iaload, 1) := by decide +kernel
theorem dX7_numberOf_25 : decode cX7_numberOf 25 = .ok (.goto 4, 3) := by decide +kernel
theorem dX7_numberOf_28 : decode cX7_numberOf 28 = .ok (.iconst (-1), 1) := by decide +kernel
theorem dX7_numberOf_29 : decode cX7_numberOf 29 = .ok (.ireturn, 1) := by decide +kernel
theorem dX7_register_0 : decode cX7_register 0 = .ok (.aload_n 0, 1) := by decide +kernel
theorem dX7_register_1 : decode cX7_register 1 = .ok (.aload_n 0, 1) := by decide +kernel
theorem dX7_register_2 : decode cX7_register 2 = .ok (.iload_n 1, 1) := by decide +kernel
theorem dX7_register_3 : decode cX7_register 3 = .ok (.invokevirtual 143, 3) := by decide +kernel
theorem dX7_register_6 : decode cX7_register 6 = .ok (.ifCond .eq 13, 3) := by decide +kernel
theorem dX7_register_9 : decode cX7_register 9 = .ok (.iload_n 2, 1) := by decide +kernel
theorem dX7_register_10 : decode cX7_register 10 = .ok (.iconst 0, 1) := by decide +kernel
theorem dX7_register_11 : decode cX7_register 11 = .ok (.bipush 8, 2) := by decide +kernel
theorem dX7_register_13 : decode cX7_register 13 = .ok (.invokestatic 110, 3) := by decide +kernel
theorem dX7_register_16 : decode cX7_register 16 = .ok (.ifCond .ne 7, 3) := by decide +kernel
theorem dX7_register_19 : decode cX7_register 19 = .ok (.iconst 1, 1) := by decide +kernel
theorem dX7_register_20 : decode cX7_register 20 = .ok (.goto 4, 3) := by decide +kernel
theorem dX7_register_23 : decode cX7_register 23 = .ok (.iconst 0, 1) := by decide +kernel
theorem dX7_register_24 : decode cX7_register 24 = .ok (.iconst 1, 1) := by decide +kernel
theorem dX7_register_25 : decode cX7_register 25 = .ok (.invokevirtual 114, 3) := by decide +kernel
theorem dX7_register_28 : decode cX7_register 28 = .ok (.ifCond .eq 5, 3) := by decide +kernel
theorem dX7_register_31 : decode cX7_register 31 = .ok (.iconst 0, 1) := by decide +kernel
theorem dX7_register_32 : decode cX7_register 32 = .ok (.ireturn, 1) := by decide +kernel
theorem dX7_register_33 : decode cX7_register 33 = .ok (.iload_n 2, 1) := by decide +kernel
theorem dX7_register_34 : decode cX7_register 34 = .ok (.bipush 8, 2) := by decide +kernel
theorem dX7_register_36 : decode cX7_register 36 = .ok (.if_icmp .ge 17, 3) := by decide +kernel
theorem dX7_register_39 : decode cX7_register 39 = .ok (.aload_n 0, 1) := by decide +kernel
theorem dX7_register_40 : decode cX7_register 40 = .ok (.bipush 8, 2) := by decide +kernel
theorem dX7_register_42 : decode cX7_register 42 = .ok (.iload_n 1, 1) := by decide +kernel
theorem dX7_register_43 : decode cX7_register 43 = .ok (.iconst 1, 1) := by decide +kernel
theorem dX7_register_44 : decode cX7_register 44 = .ok (.isub, 1) := by decide +kernel
theorem dX7_register_45 : decode cX7_register 45 = .ok (.imul, 1) := by decide +kernel
theorem dX7_register_46 : decode cX7_register 46 = .ok (.iload_n 2, 1) := by decide +kernel
theorem dX7_register_47 : decode cX7_register 47 = .ok (.iadd, 1) := by decide +kernel
theorem dX7_register_48 : decode cX7_register 48 = .ok (.iload_n 3, 1) := by decide +kernel
theorem dX7_register_49 : decode cX7_register 49 = .ok (.invokevirtual 273, 3) := by decide +kernel
theorem dX7_register_52 : decode cX7_register 52 = .ok (.ireturn, 1) := by decide +kernel
theorem dX7_register_53 : decode cX7_register 53 = .ok (.aload_n 0, 1) := by decide +kernel
theorem dX7_register_54 : decode cX7_register 54 = .ok (.getfield 29, 3) := by decide +kernel
theorem dX7_register_57 : decode cX7_register 57 = .ok (.iload_n 1, 1) := by decide +kernel
theorem dX7_register_58 : decode cX7_register 58 = .ok (.iconst 1, 1) := by decide +kernel
theorem dX7_register_59 : decode cX7_register 59 = .ok (.isub, 1) := by decide +kernel
theorem dX7_register_60 : decode cX7_register 60 = .ok (.iaload, 1) := by decide +kernel
theorem dX7_register_61 : decode cX7_register 61 = .ok (.iconst 2, 1) := by decide +kernel
theorem dX7_register_62 : decode cX7_register 62 = .ok (.if_icmp .ne 18, 3) := by decide +kernel
theorem dX7_register_65 : decode cX7_register 65 = .ok (.aload_n 0, 1) := by decide +kernel
theorem dX7_register_66 : decode cX7_register 66 = .ok (.sipush 2880, 3) := by decide +kernel
theorem dX7_register_69 : decode cX7_register 69 = .ok (.iload_n 1, 1) := by decide +kernel
theorem dX7_register_70 : decode cX7_register 70 = .ok (.iadd, 1) := by decide +kernel
theorem dX7_register_71 : decode cX7_register 71 = .ok (.iconst 1, 1) := by decide +kernel
theorem dX7_register_72 : decode cX7_register 72 = .ok (.isub, 1) := by decide +kernel
theorem dX7_register_73 : decode cX7_register 73 = .ok (.iload_n 3, 1) := by decide +kernel
theorem dX7_register_74 : decode cX7_register 74 = .ok (.invokevirtual 273, 3) := by decide +kernel
theorem dX7_register_77 : decode cX7_register 77 = .ok (.goto 4, 3) := by decide +kernel
theorem dX7_register_80 : decode cX7_register 80 = .ok (.iconst (-1), 1) := by decide +kernel
theorem dX7_register_81 : decode cX7_register 81 = .ok (.ireturn, 1) := by decide +kernel
theorem dX7_message_0 : decode cX7_message 0 = .ok (.aload_n 0, 1) := by decide +kernel
theorem dX7_message_1 : decode cX7_message 1 = .ok (.aload_n 0, 1) := by decide +kernel
theorem dX7_message_2 : decode cX7_message 2 = .ok (.iload_n 1, 1) := by decide +kernel
theorem dX7_message_3 : decode cX7_message 3 = .ok (.invokevirtual 143, 3) := by decide +kernel
theorem dX7_message_6 : decode cX7_message 6 = .ok (.ifCond .ne 7, 3) := by decide +kernel
theorem dX7_message_9 : decode cX7_message 9 = .ok (.iconst 1, 1) := by decide +kernel
theorem dX7_message_10 : decode cX7_message 10 = .ok (.goto 4, 3) := by decide +kernel
theorem dX7_message_13 : decode cX7_message 13 = .ok (.iconst 0, 1) := by decide +kernel
theorem dX7_message_14 : decode cX7_message 14 = .ok (.iconst 1, 1) := by decide +kernel
theorem dX7_message_15 : decode cX7_message 15 = .ok (.invokevirtual 114, 3) := by decide +kernel
theorem dX7_message_18 : decode cX7_message 18 = .ok (.ifCond .eq 5, 3) := by decide +kernel
theorem dX7_message_21 : decode cX7_message 21 = .ok (.iconst 0, 1) := by decide +kernel
theorem dX7_message_22 : decode cX7_message 22 = .ok (.ireturn, 1) := by decide +kernel
theorem dX7_message_23 : decode cX7_message 23 = .ok (.iload_n 2, 1) := by decide +kernel
theorem dX7_message_24 : decode cX7_message 24 = .ok (.iconst 0, 1) := by decide +kernel
theorem dX7_message_25 : decode cX7_message 25 = .ok (.aload_n 0, 1) := by decide +kernel
theorem dX7_message_26 : decode cX7_message 26 = .ok (.getfield 45, 3) := by decide +kernel
theorem dX7_message_29 : decode cX7_message 29 = .ok (.iload_n 1, 1) := by decide +kernel
theorem dX7_message_30 : decode cX7_message 30 = .ok (.iconst 1, 1) := by decide +kernel
theorem dX7_message_31 : decode cX7_message 31 = .ok (.isub, 1) := by decide +kernel
theorem dX7_message_32 : decode cX7_message 32 = .ok (.iaload, 1) := by decide +kernel
theorem dX7_message_33 : decode cX7_message 33 = .ok (.iconst 1, 1) := by decide +kernel
theorem dX7_message_34 : decode cX7_message 34 = .ok (.isub, 1) := by decide +kernel
theorem dX7_message_35 : decode cX7_message 35 = .ok (.invokestatic 110, 3) := by decide +kernel
theorem dX7_message_38 : decode cX7_message 38 = .ok (.ifCond .eq 23, 3) := by decide +kernel
theorem dX7_message_41 : decode cX7_message 41 = .ok (.aload_n 0, 1) := by decide +kernel
theorem dX7_message_42 : decode cX7_message 42 = .ok (.sipush 480, 3) := by decide +kernel
theorem dX7_message_45 : decode cX7_message 45 = .ok (.bipush 40, 2) := by decide +kernel
theorem dX7_message_47 : decode cX7_message 47 = .ok (.iload_n 1, 1) := by decide +kernel
theorem dX7_message_48 : decode cX7_message 48 = .ok (.iconst 1, 1) := by decide +kernel
theorem dX7_message_49 : decode cX7_message 49 = .ok (.isub, 1) := by decide +kernel
theorem dX7_message_50 : decode cX7_message 50 = .ok (.imul, 1) := by decide +kernel
theorem dX7_message_51 : decode cX7_message 51 = .ok (.iadd, 1) := by decide +kernel
theorem dX7_message_52 : decode cX7_message 52 = .ok (.iload_n 2, 1) := by decide +kernel
theorem dX7_message_53 : decode cX7_message 53 = .ok (.iadd, 1) := by decide +kernel
theorem dX7_message_54 : decode cX7_message 54 = .ok (.iload_n 3, 1) := by decide +kernel
theorem dX7_message_55 : decode cX7_message 55 = .ok (.invokevirtual 273, 3) := by decide +kernel
theorem dX7_message_58 : decode cX7_message 58 = .ok (.goto 4, 3) := by decide +kernel
theorem dX7_message_61 : decode cX7_message 61 = .ok (.iconst (-1), 1) := by decide +kernel
theorem dX7_message_62 : decode cX7_message 62 = .ok (.ireturn, 1) := by decide +kernel
theorem dX7_total_0 : decode cX7_total 0 = .ok (.aload_n 0, 1) := by decide +kernel
theorem dX7_total_1 : decode cX7_total 1 = .ok (.iload_n 1, 1) := by decide +kernel
theorem dX7_total_2 : decode cX7_total 2 = .ok (.iconst 0, 1) := by decide +kernel
theorem dX7_total_3 : decode cX7_total 3 = .ok (.bipush 8, 2) := by decide +kernel
theorem dX7_total_5 : decode cX7_total 5 = .ok (.invokestatic 110, 3) := by decide +kernel
theorem dX7_total_8 : decode cX7_total 8 = .ok (.ifCond .ne 7, 3) := by decide +kernel
theorem dX7_total_11 : decode cX7_total 11 = .ok (.iconst 1, 1) := by decide +kernel
theorem dX7_total_12 : decode cX7_total 12 = .ok (.goto 4, 3) := by decide +kernel
theorem dX7_total_15 : decode cX7_total 15 = .ok (.iconst 0, 1) := by decide +kernel
theorem dX7_total_16 : decode cX7_total 16 = .ok (.iconst 1, 1) := by decide +kernel
theorem dX7_total_17 : decode cX7_total 17 = .ok (.invokevirtual 114, 3) := by decide +kernel
theorem dX7_total_20 : decode cX7_total 20 = .ok (.ifCond .eq 5, 3) := by decide +kernel
theorem dX7_total_23 : decode cX7_total 23 = .ok (.iconst 0, 1) := by decide +kernel
theorem dX7_total_24 : decode cX7_total 24 = .ok (.ireturn, 1) := by decide +kernel
theorem dX7_total_25 : decode cX7_total 25 = .ok (.iconst 0, 1) := by decide +kernel
theorem dX7_total_26 : decode cX7_total 26 = .ok (.istore_n 2, 1) := by decide +kernel
theorem dX7_total_27 : decode cX7_total 27 = .ok (.iconst 0, 1) := by decide +kernel
theorem dX7_total_28 : decode cX7_total 28 = .ok (.istore_n 3, 1) := by decide +kernel
theorem dX7_total_29 : decode cX7_total 29 = .ok (.iconst 0, 1) := by decide +kernel
theorem dX7_total_30 : decode cX7_total 30 = .ok (.istore 4, 2) := by decide +kernel
theorem dX7_total_32 : decode cX7_total 32 = .ok (.iload 4, 2) := by decide +kernel
theorem dX7_total_34 : decode cX7_total 34 = .ok (.aload_n 0, 1) := by decide +kernel
theorem dX7_total_35 : decode cX7_total 35 = .ok (.getfield 121, 3) := by decide +kernel
theorem dX7_total_38 : decode cX7_total 38 = .ok (.if_icmp .ge 46, 3) := by decide +kernel
theorem dX7_total_41 : decode cX7_total 41 = .ok (.iload_n 2, 1) := by decide +kernel
theorem dX7_total_42 : decode cX7_total 42 = .ok (.aload_n 0, 1) := by decide +kernel
theorem dX7_total_43 : decode cX7_total 43 = .ok (.getfield 29, 3) := by decide +kernel
theorem dX7_total_46 : decode cX7_total 46 = .ok (.iload 4, 2) := by decide +kernel
theorem dX7_total_48 : decode cX7_total 48 = .ok (.iaload, 1) := by decide +kernel
theorem dX7_total_49 : decode cX7_total 49 = .ok (.iconst 2, 1) := by decide +kernel
theorem dX7_total_50 : decode cX7_total 50 = .ok (.if_icmp .ne 7, 3) := by decide +kernel
theorem dX7_total_53 : decode cX7_total 53 = .ok (.iconst 0, 1) := by decide +kernel
theorem dX7_total_54 : decode cX7_total 54 = .ok (.goto 4, 3) := by decide +kernel
theorem dX7_total_57 : decode cX7_total 57 = .ok (.iconst 1, 1) := by decide +kernel
theorem dX7_total_58 : decode cX7_total 58 = .ok (.iadd, 1) := by decide +kernel
theorem dX7_total_59 : decode cX7_total 59 = .ok (.istore_n 2, 1) := by decide +kernel
theorem dX7_total_60 : decode cX7_total 60 = .ok (.iload_n 3, 1) := by decide +kernel
theorem dX7_total_61 : decode cX7_total 61 = .ok (.aload_n 0, 1) := by decide +kernel
theorem dX7_total_62 : decode cX7_total 62 = .ok (.getfield 29, 3) := by decide +kernel
theorem dX7_total_65 : decode cX7_total 65 = .ok (.iload 4, 2) := by decide +kernel
theorem dX7_total_67 : decode cX7_total 67 = .ok (.iaload, 1) := by decide +kernel
theorem dX7_total_68 : decode cX7_total 68 = .ok (.ifCond .ne 7, 3) := by decide +kernel
theorem dX7_total_71 : decode cX7_total 71 = .ok (.iconst 1, 1) := by decide +kernel
theorem dX7_total_72 : decode cX7_total 72 = .ok (.goto 4, 3) := by decide +kernel
theorem dX7_total_75 : decode cX7_total 75 = .ok (.iconst 0, 1) := by decide +kernel
theorem dX7_total_76 : decode cX7_total 76 = .ok (.iadd, 1) := by decide +kernel
theorem dX7_total_77 : decode cX7_total 77 = .ok (.istore_n 3, 1) := by decide +kernel
theorem dX7_total_78 : decode cX7_total 78 = .ok (.iinc 4 1, 3) := by decide +kernel
theorem dX7_total_81 : decode cX7_total 81 = .ok (.goto (-49), 3) := by decide +kernel
theorem dX7_total_84 : decode cX7_total 84 = .ok (.iload_n 1, 1) := by decide +kernel
theorem dX7_total_85 : decode cX7_total 85 = .ok (.tableswitch 81 0 7 #[47, 52, 54, 56, 61, 66, 71, 76], 47) := by decide +kernel
theorem dX7_total_132 : decode cX7_total 132 = .ok (.aload_n 0, 1) := by decide +kernel
theorem dX7_total_133 : decode cX7_total 133 = .ok (.getfield 121, 3) := by decide +kernel
theorem dX7_total_136 : decode cX7_total 136 = .ok (.ireturn, 1) := by decide +kernel
theorem dX7_total_137 : decode cX7_total 137 = .ok (.iload_n 2, 1) := by decide +kernel
theorem dX7_total_138 : decode cX7_total 138 = .ok (.ireturn, 1) := by decide +kernel
theorem dX7_total_139 : decode cX7_total 139 = .ok (.iload_n 3, 1) := by decide +kernel
theorem dX7_total_140 : decode cX7_total 140 = .ok (.ireturn, 1) := by decide +kernel
theorem dX7_total_141 : decode cX7_total 141 = .ok (.aload_n 0, 1) := by decide +kernel
theorem dX7_total_142 : decode cX7_total 142 = .ok (.getfield 263, 3) := by decide +kernel
theorem dX7_total_145 : decode cX7_total 145 = .ok (.ireturn, 1) := by decide +kernel
theorem dX7_total_146 : decode cX7_total 146 = .ok (.aload_n 0, 1) := by decide +kernel
theorem dX7_total_147 : decode cX7_total 147 = .ok (.getfield 206, 3) := by decide +kernel
theorem dX7_total_150 : decode cX7_total 150 = .ok (.ireturn, 1) := by decide +kernel
theorem dX7_total_151 : decode cX7_total 151 = .ok (.aload_n 0, 1) := by decide +kernel
theorem dX7_total_152 : decode cX7_total 152 = .ok (.getfield 251, 3) := by decide +kernel
theorem dX7_total_155 : decode cX7_total 155 = .ok (.ireturn, 1) := by decide +kernel
theorem dX7_total_156 : decode cX7_total 156 = .ok (.aload_n 0, 1) := by decide +kernel
theorem dX7_total_157 : decode cX7_total 157 = .ok (.getfield 260, 3) := by decide +kernel
theorem dX7_total_160 : decode cX7_total 160 = .ok (.ireturn, 1) := by decide +kernel
theorem dX7_total_161 : decode cX7_total 161 = .ok (.aload_n 0, 1) := by decide +kernel
theorem dX7_total_162 : decode cX7_total 162 = .ok (.getfield 257, 3) := by decide +kernel
theorem dX7_total_165 : decode cX7_total 165 = .ok (.ireturn, 1) := by decide +kernel
theorem dX7_total_166 : decode cX7_total 166 = .ok (.aload_n 0, 1) := by decide +kernel
theorem dX7_total_167 : decode cX7_total 167 = .ok (.getfield 140, 3) := by decide +kernel
theorem dX7_total_170 : decode cX7_total 170 = .ok (.ireturn, 1) := by decide +kernel
theorem dJ13_bitCount_95d88_0 : decode cJ13_bitCount_95d88 0 = .ok (.lload_n 0, 1) := by decide +kernel
theorem dJ13_bitCount_95d88_1 : decode cJ13_bitCount_95d88 1 = .ok (.lload_n 0, 1) := by decide +kernel
theorem dJ13_bitCount_95d88_2 : decode cJ13_bitCount_95d88 2 = .ok (.iconst 1, 1) := by decide +kernel
theorem dJ13_bitCount_95d88_3 : decode cJ13_bitCount_95d88 3 = .ok (.lushr, 1) := by decide +kernel
theorem dJ13_bitCount_95d88_4 : decode cJ13_bitCount_95d88 4 = .ok (.ldc2_w 314, 3) := by decide +kernel
theorem dJ13_bitCount_95d88_7 : decode cJ13_bitCount_95d88 7 = .ok (.land, 1) := by decide +kernel
theorem dJ13_bitCount_95d88_8 : decode cJ13_bitCount_95d88 8 = .ok (.lsub, 1) := by decide +kernel
theorem dJ13_bitCount_95d88_9 : decode cJ13_bitCount_95d88 9 = .ok (.lstore_n 0, 1) := by decide +kernel
theorem dJ13_bitCount_95d88_10 : decode cJ13_bitCount_95d88 10 = .ok (.lload_n 0, 1) := by decide +kernel
theorem dJ13_bitCount_95d88_11 : decode cJ13_bitCount_95d88 11 = .ok (.ldc2_w 316, 3) := by decide +kernel
theorem dJ13_bitCount_95d88_14 : decode cJ13_bitCount_95d88 14 = .ok (.land, 1) := by decide +kernel
theorem dJ13_bitCount_95d88_15 : decode cJ13_bitCount_95d88 15 = .ok (.lload_n 0, 1) := by decide +kernel
theorem dJ13_bitCount_95d88_16 : decode cJ13_bitCount_95d88 16 = .ok (.iconst 2, 1) := by decide +kernel
theorem dJ13_bitCount_95d88_17 : decode cJ13_bitCount_95d88 17 = .ok (.lushr, 1) := by decide +kernel
theorem dJ13_bitCount_95d88_18 : decode cJ13_bitCount_95d88 18 = .ok (.ldc2_w 316, 3) := by decide +kernel
theorem dJ13_bitCount_95d88_21 : decode cJ13_bitCount_95d88 21 = .ok (.land, 1) := by decide +kernel
theorem dJ13_bitCount_95d88_22 : decode cJ13_bitCount_95d88 22 = .ok (.ladd, 1) := by decide +kernel
theorem dJ13_bitCount_95d88_23 : decode cJ13_bitCount_95d88 23 = .ok (.lstore_n 0, 1) := by decide +kernel
theorem dJ13_bitCount_95d88_24 : decode cJ13_bitCount_95d88 24 = .ok (.lload_n 0, 1) := by decide +kernel
theorem dJ13_bitCount_95d88_25 : decode cJ13_bitCount_95d88 25 = .ok (.lload_n 0, 1) := by decide +kernel
theorem dJ13_bitCount_95d88_26 : decode cJ13_bitCount_95d88 26 = .ok (.iconst 4, 1) := by decide +kernel
theorem dJ13_bitCount_95d88_27 : decode cJ13_bitCount_95d88 27 = .ok (.lushr, 1) := by decide +kernel
theorem dJ13_bitCount_95d88_28 : decode cJ13_bitCount_95d88 28 = .ok (.ladd, 1) := by decide +kernel
theorem dJ13_bitCount_95d88_29 : decode cJ13_bitCount_95d88 29 = .ok (.ldc2_w 318, 3) := by decide +kernel
theorem dJ13_bitCount_95d88_32 : decode cJ13_bitCount_95d88 32 = .ok (.land, 1) := by decide +kernel
theorem dJ13_bitCount_95d88_33 : decode cJ13_bitCount_95d88 33 = .ok (.lstore_n 0, 1) := by decide +kernel
theorem dJ13_bitCount_95d88_34 : decode cJ13_bitCount_95d88 34 = .ok (.lload_n 0, 1) := by decide +kernel
theorem dJ13_bitCount_95d88_35 : decode cJ13_bitCount_95d88 35 = .ok (.lload_n 0, 1) := by decide +kernel
theorem dJ13_bitCount_95d88_36 : decode cJ13_bitCount_95d88 36 = .ok (.bipush 8, 2) := by decide +kernel
theorem dJ13_bitCount_95d88_38 : decode cJ13_bitCount_95d88 38 = .ok (.lushr, 1) := by decide +kernel
theorem dJ13_bitCount_95d88_39 : decode cJ13_bitCount_95d88 39 = .ok (.ladd, 1) := by decide +kernel
theorem dJ13_bitCount_95d88_40 : decode cJ13_bitCount_95d88 40 = .ok (.lstore_n 0, 1) := by decide +kernel
theorem dJ13_bitCount_95d88_41 : decode cJ13_bitCount_95d88 41 = .ok (.lload_n 0, 1) := by decide +kernel
theorem dJ13_bitCount_95d88_42 : decode cJ13_bitCount_95d88 42 = .ok (.lload_n 0, 1) := by decide +kernel
theorem dJ13_bitCount_95d88_43 : decode cJ13_bitCount_95d88 43 = .ok (.bipush 16, 2) := by decide +kernel
theorem dJ13_bitCount_95d88_45 : decode cJ13_bitCount_95d88 45 = .ok (.lushr, 1) := by decide +kernel
theorem dJ13_bitCount_95d88_46 : decode cJ13_bitCount_95d88 46 = .ok (.ladd, 1) := by decide +kernel
theorem dJ13_bitCount_95d88_47 : decode cJ13_bitCount_95d88 47 = .ok (.lstore_n 0, 1) := by decide +kernel
theorem dJ13_bitCount_95d88_48 : decode cJ13_bitCount_95d88 48 = .ok (.lload_n 0, 1) := by decide +kernel
theorem dJ13_bitCount_95d88_49 : decode cJ13_bitCount_95d88 49 = .ok (.lload_n 0, 1) := by decide +kernel
theorem dJ13_bitCount_95d88_50 : decode cJ13_bitCount_95d88 50 = .ok (.bipush 32, 2) := by decide +kernel
theorem dJ13_bitCount_95d88_52 : decode cJ13_bitCount_95d88 52 = .ok (.lushr, 1) := by decide +kernel
theorem dJ13_bitCount_95d88_53 : decode cJ13_bitCount_95d88 53 = .ok (.ladd, 1) := by decide +kernel
theorem dJ13_bitCount_95d88_54 : decode cJ13_bitCount_95d88 54 = .ok (.lstore_n 0, 1) := by decide +kernel
theorem dJ13_bitCount_95d88_55 : decode cJ13_bitCount_95d88 55 = .ok (.lload_n 0, 1) := by decide +kernel
theorem dJ13_bitCount_95d88_56 : decode cJ13_bitCount_95d88 56 = .ok (.l2i, 1) := by decide +kernel
theorem dJ13_bitCount_95d88_57 : decode cJ13_bitCount_95d88 57 = .ok (.bipush 127, 2) := by decide +kernel
theorem dJ13_bitCount_95d88_59 : decode cJ13_bitCount_95d88 59 = .ok (.iand, 1) := by decide +kernel
theorem dJ13_bitCount_95d88_60 : decode cJ13_bitCount_95d88 60 = .ok (.ireturn, 1) := by decide +kernel
theorem dJ9_floorMod_7cf53_0 : decode cJ9_floorMod_7cf53 0 = .ok (.iload_n 0, 1) := by decide +kernel
theorem dJ9_floorMod_7cf53_1 : decode cJ9_floorMod_7cf53 1 = .ok (.iload_n 1, 1) := by decide +kernel
theorem dJ9_floorMod_7cf53_2 : decode cJ9_floorMod_7cf53 2 = .ok (.irem, 1) := by decide +kernel
theorem dJ9_floorMod_7cf53_3 : decode cJ9_floorMod_7cf53 3 = .ok (.istore_n 2, 1) := by decide +kernel
theorem dJ9_floorMod_7cf53_4 : decode cJ9_floorMod_7cf53 4 = .ok (.iload_n 0, 1) := by decide +kernel
theorem dJ9_floorMod_7cf53_5 : decode cJ9_floorMod_7cf53 5 = .ok (.iload_n 1, 1) := by decide +kernel
theorem dJ9_floorMod_7cf53_6 : decode cJ9_floorMod_7cf53 6 = .ok (.ixor, 1) := by decide +kernel
theorem dJ9_floorMod_7cf53_7 : decode cJ9_floorMod_7cf53 7 = .ok (.ifCond .ge 11, 3) := by decide +kernel
theorem dJ9_floorMod_7cf53_10 : decode cJ9_floorMod_7cf53 10 = .ok (.iload_n 2, 1) := by decide +kernel
theorem dJ9_floorMod_7cf53_11 : decode cJ9_floorMod_7cf53 11 = .ok (.ifCond .eq 7, 3) := by decide +kernel
theorem dJ9_floorMod_7cf53_14 : decode cJ9_floorMod_7cf53 14 = .ok (.iload_n 2, 1) := by decide +kernel
theorem dJ9_floorMod_7cf53_15 : decode cJ9_floorMod_7cf53 15 = .ok (.iload_n 1, 1) := by decide +kernel
theorem dJ9_floorMod_7cf53_16 : decode cJ9_floorMod_7cf53 16 = .ok (.iadd, 1) := by decide +kernel
theorem dJ9_floorMod_7cf53_17 : decode cJ9_floorMod_7cf53 17 = .ok (.ireturn, 1) := by decide +kernel
theorem dJ9_floorMod_7cf53_18 : decode cJ9_floorMod_7cf53 18 = .ok (.iload_n 2, 1) := by decide +kernel
theorem dJ9_floorMod_7cf53_19 : decode cJ9_floorMod_7cf53 19 = .ok (.ireturn, 1) := by decide +kernel
theorem dJ9_min_7cf53_0 : decode cJ9_min_7cf53 0 = .ok (.iload_n 0, 1) := by decide +kernel
theorem dJ9_min_7cf53_1 : decode cJ9_min_7cf53 1 = .ok (.iload_n 1, 1) := by decide +kernel
theorem dJ9_min_7cf53_2 : decode cJ9_min_7cf53 2 = .ok (.if_icmp .gt 7, 3) := by decide +kernel
theorem dJ9_min_7cf53_5 : decode cJ9_min_7cf53 5 = .ok (.iload_n 0, 1) := by decide +kernel
theorem dJ9_min_7cf53_6 : decode cJ9_min_7cf53 6 = .ok (.goto 4, 3) := by decide +kernel
theorem dJ9_min_7cf53_9 : decode cJ9_min_7cf53 9 = .ok (.iload_n 1, 1) := by decide +kernel
theorem dJ9_min_7cf53_10 : decode cJ9_min_7cf53 10 = .ok (.ireturn, 1) := by decide +kernel
theorem dL_word_0 : decode cL_word 0 = .ok (.aload_n 0, 1) := by decide +kernel
theorem dL_word_1 : decode cL_word 1 = .ok (.iload_n 1, 1) := by decide +kernel
theorem dL_word_2 : decode cL_word 2 = .ok (.iload_n 2, 1) := by decide +kernel
theorem dL_word_3 : decode cL_word 3 = .ok (.iload_n 3, 1) := by decide +kernel
theorem dL_word_4 : decode cL_word 4 = .ok (.iload 4, 2) := by decide +kernel
theorem dL_word_6 : decode cL_word 6 = .ok (.iload 5, 2) := by decide +kernel
theorem dL_word_8 : decode cL_word 8 = .ok (.invokevirtual 7, 3) := by decide +kernel
theorem dL_word_11 : decode cL_word 11 = .ok (.goto 7, 3) := by decide +kernel
theorem dL_word_14 : decode cL_word 14 = .ok (.astore 6, 2) := by decide +kernel
theorem dL_word_16 : decode cL_word 16 = .ok (.iconst 1, 1) := by decide +kernel
theorem dL_word_17 : decode cL_word 17 = .ok (.ireturn, 1) := by decide +kernel
theorem dL_word_18 : decode cL_word 18 = .ok (.iconst 0, 1) := by decide +kernel
theorem dL_word_19 : decode cL_word 19 = .ok (.ireturn, 1) := by decide +kernel
theorem dL_start_0 : decode cL_start 0 = .ok (.aload_n 3, 1) := by decide +kernel
theorem dL_start_1 : decode cL_start 1 = .ok (.iconst 0, 1) := by decide +kernel
theorem dL_start_2 : decode cL_start 2 = .ok (.aload_n 0, 1) := by decide +kernel
theorem dL_start_3 : decode cL_start 3 = .ok (.iload_n 1, 1) := by decide +kernel
theorem dL_start_4 : decode cL_start 4 = .ok (.iload_n 2, 1) := by decide +kernel
theorem dL_start_5 : decode cL_start 5 = .ok (.invokevirtual 15, 3) := by decide +kernel
theorem dL_start_8 : decode cL_start 8 = .ok (.i2l, 1) := by decide +kernel
theorem dL_start_9 : decode cL_start 9 = .ok (.lastore, 1) := by decide +kernel
theorem dL_start_10 : decode cL_start 10 = .ok (.goto 11, 3) := by decide +kernel
theorem dL_start_13 : decode cL_start 13 = .ok (.astore 4, 2) := by decide +kernel
theorem dL_start_15 : decode cL_start 15 = .ok (.iconst 1, 1) := by decide +kernel
theorem dL_start_16 : decode cL_start 16 = .ok (.ireturn, 1) := by decide +kernel
theorem dL_start_17 : decode cL_start 17 = .ok (.astore 4, 2) := by decide +kernel
theorem dL_start_19 : decode cL_start 19 = .ok (.iconst 2, 1) := by decide +kernel
theorem dL_start_20 : decode cL_start 20 = .ok (.ireturn, 1) := by decide +kernel
theorem dL_start_21 : decode cL_start 21 = .ok (.iconst 0, 1) := by decide +kernel
theorem dL_start_22 : decode cL_start 22 = .ok (.ireturn, 1) := by decide +kernel
theorem dL_send_0 : decode cL_send 0 = .ok (.aload_n 3, 1) := by decide +kernel
theorem dL_send_1 : decode cL_send 1 = .ok (.iconst 0, 1) := by decide +kernel
theorem dL_send_2 : decode cL_send 2 = .ok (.aload_n 0, 1) := by decide +kernel
theorem dL_send_3 : decode cL_send 3 = .ok (.iload_n 1, 1) := by decide +kernel
theorem dL_send_4 : decode cL_send 4 = .ok (.iload_n 2, 1) := by decide +kernel
theorem dL_send_5 : decode cL_send 5 = .ok (.invokevirtual 21, 3) := by decide +kernel
theorem dL_send_8 : decode cL_send 8 = .ok (.ifCond .eq 7, 3) := by decide +kernel
theorem dL_send_11 : decode cL_send 11 = .ok (.lconst 1, 1) := by decide +kernel
theorem dL_send_12 : decode cL_send 12 = .ok (.goto 4, 3) := by decide +kernel
theorem dL_send_15 : decode cL_send 15 = .ok (.lconst 0, 1) := by decide +kernel
theorem dL_send_16 : decode cL_send 16 = .ok (.lastore, 1) := by decide +kernel
theorem dL_send_17 : decode cL_send 17 = .ok (.goto 7, 3) := by decide +kernel
theorem dL_send_20 : decode cL_send 20 = .ok (.astore 4, 2) := by decide +kernel
theorem dL_send_22 : decode cL_send 22 = .ok (.iconst 1, 1) := by decide +kernel
theorem dL_send_23 : decode cL_send 23 = .ok (.ireturn, 1) := by decide +kernel
theorem dL_send_24 : decode cL_send 24 = .ok (.iconst 0, 1) := by decide +kernel
theorem dL_send_25 : decode cL_send 25 = .ok (.ireturn, 1) := by decide +kernel
theorem dL_run_0 : decode cL_run 0 = .ok (.aload_n 2, 1) := by decide +kernel
theorem dL_run_1 : decode cL_run 1 = .ok (.iconst 0, 1) := by decide +kernel
theorem dL_run_2 : decode cL_run 2 = .ok (.aload_n 0, 1) := by decide +kernel
theorem dL_run_3 : decode cL_run 3 = .ok (.iload_n 1, 1) := by decide +kernel
theorem dL_run_4 : decode cL_run 4 = .ok (.invokevirtual 25, 3) := by decide +kernel
theorem dL_run_7 : decode cL_run 7 = .ok (.i2l, 1) := by decide +kernel
theorem dL_run_8 : decode cL_run 8 = .ok (.lastore, 1) := by decide +kernel
theorem dL_run_9 : decode cL_run 9 = .ok (.goto 6, 3) := by decide +kernel
theorem dL_run_12 : decode cL_run 12 = .ok (.astore_n 3, 1) := by decide +kernel
theorem dL_run_13 : decode cL_run 13 = .ok (.iconst 1, 1) := by decide +kernel
theorem dL_run_14 : decode cL_run 14 = .ok (.ireturn, 1) := by decide +kernel
theorem dL_run_15 : decode cL_run 15 = .ok (.iconst 0, 1) := by decide +kernel
theorem dL_run_16 : decode cL_run 16 = .ok (.ireturn, 1) := by decide +kernel
theorem dL_pass_0 : decode cL_pass 0 = .ok (.aload_n 2, 1) := by decide +kernel
theorem dL_pass_1 : decode cL_pass 1 = .ok (.iconst 0, 1) := by decide +kernel
theorem dL_pass_2 : decode cL_pass 2 = .ok (.aload_n 0, 1) := by decide +kernel
theorem dL_pass_3 : decode cL_pass 3 = .ok (.iload_n 1, 1) := by decide +kernel
theorem dL_pass_4 : decode cL_pass 4 = .ok (.invokevirtual 29, 3) := by decide +kernel
theorem dL_pass_7 : decode cL_pass 7 = .ok (.i2l, 1) := by decide +kernel
theorem dL_pass_8 : decode cL_pass 8 = .ok (.lastore, 1) := by decide +kernel
theorem dL_pass_9 : decode cL_pass 9 = .ok (.goto 6, 3) := by decide +kernel
theorem dL_pass_12 : decode cL_pass 12 = .ok (.astore_n 3, 1) := by decide +kernel
theorem dL_pass_13 : decode cL_pass 13 = .ok (.iconst 1, 1) := by decide +kernel
theorem dL_pass_14 : decode cL_pass 14 = .ok (.ireturn, 1) := by decide +kernel
theorem dL_pass_15 : decode cL_pass 15 = .ok (.iconst 0, 1) := by decide +kernel
theorem dL_pass_16 : decode cL_pass 16 = .ok (.ireturn, 1) := by decide +kernel
theorem dL_process_0 : decode cL_process 0 = .ok (.aload_n 3, 1) := by decide +kernel
theorem dL_process_1 : decode cL_process 1 = .ok (.iconst 0, 1) := by decide +kernel
theorem dL_process_2 : decode cL_process 2 = .ok (.aload_n 0, 1) := by decide +kernel
theorem dL_process_3 : decode cL_process 3 = .ok (.iload_n 1, 1) := by decide +kernel
theorem dL_process_4 : decode cL_process 4 = .ok (.iload_n 2, 1) := by decide +kernel
theorem dL_process_5 : decode cL_process 5 = .ok (.invokevirtual 32, 3) := by decide +kernel
theorem dL_process_8 : decode cL_process 8 = .ok (.i2l, 1) := by decide +kernel
theorem dL_process_9 : decode cL_process 9 = .ok (.lastore, 1) := by decide +kernel
theorem dL_process_10 : decode cL_process 10 = .ok (.goto 7, 3) := by decide +kernel
theorem dL_process_13 : decode cL_process 13 = .ok (.astore 4, 2) := by decide +kernel
theorem dL_process_15 : decode cL_process 15 = .ok (.iconst 1, 1) := by decide +kernel
theorem dL_process_16 : decode cL_process 16 = .ok (.ireturn, 1) := by decide +kernel
theorem dL_process_17 : decode cL_process 17 = .ok (.iconst 0, 1) := by decide +kernel
theorem dL_process_18 : decode cL_process 18 = .ok (.ireturn, 1) := by decide +kernel
theorem dL_register_0 : decode cL_register 0 = .ok (.aload 4, 2) := by decide +kernel
theorem dL_register_2 : decode cL_register 2 = .ok (.iconst 0, 1) := by decide +kernel
theorem dL_register_3 : decode cL_register 3 = .ok (.aload_n 0, 1) := by decide +kernel
theorem dL_register_4 : decode cL_register 4 = .ok (.iload_n 1, 1) := by decide +kernel
theorem dL_register_5 : decode cL_register 5 = .ok (.iload_n 2, 1) := by decide +kernel
theorem dL_register_6 : decode cL_register 6 = .ok (.iload_n 3, 1) := by decide +kernel
theorem dL_register_7 : decode cL_register 7 = .ok (.invokevirtual 35, 3) := by decide +kernel
theorem dL_register_10 : decode cL_register 10 = .ok (.i2l, 1) := by decide +kernel
theorem dL_register_11 : decode cL_register 11 = .ok (.lastore, 1) := by decide +kernel
theorem dL_register_12 : decode cL_register 12 = .ok (.goto 7, 3) := by decide +kernel
theorem dL_register_15 : decode cL_register 15 = .ok (.astore 5, 2) := by decide +kernel
theorem dL_register_17 : decode cL_register 17 = .ok (.iconst 1, 1) := by decide +kernel
theorem dL_register_18 : decode cL_register 18 = .ok (.ireturn, 1) := by decide +kernel
theorem dL_register_19 : decode cL_register 19 = .ok (.iconst 0, 1) := by decide +kernel
theorem dL_register_20 : decode cL_register 20 = .ok (.ireturn, 1) := by decide +kernel
theorem dL_message_0 : decode cL_message 0 = .ok (.aload 4, 2) := by decide +kernel
theorem dL_message_2 : decode cL_message 2 = .ok (.iconst 0, 1) := by decide +kernel
theorem dL_message_3 : decode cL_message 3 = .ok (.aload_n 0, 1) := by decide +kernel
theorem dL_message_4 : decode cL_message 4 = .ok (.iload_n 1, 1) := by decide +kernel
theorem dL_message_5 : decode cL_message 5 = .ok (.iload_n 2, 1) := by decide +kernel
theorem dL_message_6 : decode cL_message 6 = .ok (.iload_n 3, 1) := by decide +kernel
theorem dL_message_7 : decode cL_message 7 = .ok (.invokevirtual 39, 3) := by decide +kernel
theorem dL_message_10 : decode cL_message 10 = .ok (.i2l, 1) := by decide +kernel
theorem dL_message_11 : decode cL_message 11 = .ok (.lastore, 1) := by decide +kernel
theorem dL_message_12 : decode cL_message 12 = .ok (.goto 7, 3) := by decide +kernel
theorem dL_message_15 : decode cL_message 15 = .ok (.astore 5, 2) := by decide +kernel
theorem dL_message_17 : decode cL_message 17 = .ok (.iconst 1, 1) := by decide +kernel
theorem dL_message_18 : decode cL_message 18 = .ok (.ireturn, 1) := by decide +kernel
theorem dL_message_19 : decode cL_message 19 = .ok (.iconst 0, 1) := by decide +kernel
theorem dL_message_20 : decode cL_message 20 = .ok (.ireturn, 1) := by decide +kernel
theorem dL_total_0 : decode cL_total 0 = .ok (.aload_n 2, 1) := by decide +kernel
theorem dL_total_1 : decode cL_total 1 = .ok (.iconst 0, 1) := by decide +kernel
theorem dL_total_2 : decode cL_total 2 = .ok (.aload_n 0, 1) := by decide +kernel
theorem dL_total_3 : decode cL_total 3 = .ok (.iload_n 1, 1) := by decide +kernel
theorem dL_total_4 : decode cL_total 4 = .ok (.invokevirtual 42, 3) := by decide +kernel
theorem dL_total_7 : decode cL_total 7 = .ok (.i2l, 1) := by decide +kernel
theorem dL_total_8 : decode cL_total 8 = .ok (.lastore, 1) := by decide +kernel
theorem dL_total_9 : decode cL_total 9 = .ok (.goto 6, 3) := by decide +kernel
theorem dL_total_12 : decode cL_total 12 = .ok (.astore_n 3, 1) := by decide +kernel
theorem dL_total_13 : decode cL_total 13 = .ok (.iconst 1, 1) := by decide +kernel
theorem dL_total_14 : decode cL_total 14 = .ok (.ireturn, 1) := by decide +kernel
theorem dL_total_15 : decode cL_total 15 = .ok (.iconst 0, 1) := by decide +kernel
theorem dL_total_16 : decode cL_total 16 = .ok (.ireturn, 1) := by decide +kernel
theorem dL_law_0 : decode cL_law 0 = .ok (.new 8, 3) := by decide +kernel
theorem dL_law_3 : decode cL_law 3 = .ok (.dup, 1) := by decide +kernel
theorem dL_law_4 : decode cL_law 4 = .ok (.invokespecial 45, 3) := by decide +kernel
theorem dL_law_7 : decode cL_law 7 = .ok (.astore_n 1, 1) := by decide +kernel
theorem dL_law_8 : decode cL_law 8 = .ok (.new 46, 3) := by decide +kernel
theorem dL_law_11 : decode cL_law 11 = .ok (.dup, 1) := by decide +kernel
theorem dL_law_12 : decode cL_law 12 = .ok (.invokespecial 48, 3) := by decide +kernel
theorem dL_law_15 : decode cL_law 15 = .ok (.astore_n 2, 1) := by decide +kernel
theorem dL_law_16 : decode cL_law 16 = .ok (.iconst 1, 1) := by decide +kernel
theorem dL_law_17 : decode cL_law 17 = .ok (.newarray .long, 2) := by decide +kernel
theorem dL_law_19 : decode cL_law 19 = .ok (.astore_n 3, 1) := by decide +kernel
theorem dL_law_20 : decode cL_law 20 = .ok (.iconst 0, 1) := by decide +kernel
theorem dL_law_21 : decode cL_law 21 = .ok (.istore 4, 2) := by decide +kernel
theorem dL_law_23 : decode cL_law 23 = .ok (.iload 4, 2) := by decide +kernel
theorem dL_law_25 : decode cL_law 25 = .ok (.aload_n 0, 1) := by decide +kernel
theorem dL_law_26 : decode cL_law 26 = .ok (.arraylength, 1) := by decide +kernel
theorem dL_law_27 : decode cL_law 27 = .ok (.bipush 6, 2) := by decide +kernel
theorem dL_law_29 : decode cL_law 29 = .ok (.isub, 1) := by decide +kernel
theorem dL_law_30 : decode cL_law 30 = .ok (.if_icmp .gt 720, 3) := by decide +kernel
theorem dL_law_33 : decode cL_law 33 = .ok (.aload_n 0, 1) := by decide +kernel
theorem dL_law_34 : decode cL_law 34 = .ok (.iload 4, 2) := by decide +kernel
theorem dL_law_36 : decode cL_law 36 = .ok (.iaload, 1) := by decide +kernel
theorem dL_law_37 : decode cL_law 37 = .ok (.bipush 15, 2) := by decide +kernel
theorem dL_law_39 : decode cL_law 39 = .ok (.iand, 1) := by decide +kernel
theorem dL_law_40 : decode cL_law 40 = .ok (.tableswitch 704 0 9 #[56, 140, 208, 283, 339, 395, 420, 488, 568, 648], 56) := by decide +kernel
theorem dL_law_96 : decode cL_law 96 = .ok (.aload_n 1, 1) := by decide +kernel
theorem dL_law_97 : decode cL_law 97 = .ok (.aload_n 0, 1) := by decide +kernel
theorem dL_law_98 : decode cL_law 98 = .ok (.iload 4, 2) := by decide +kernel
theorem dL_law_100 : decode cL_law 100 = .ok (.iconst 1, 1) := by decide +kernel
theorem dL_law_101 : decode cL_law 101 = .ok (.iadd, 1) := by decide +kernel
theorem dL_law_102 : decode cL_law 102 = .ok (.iaload, 1) := by decide +kernel
theorem dL_law_103 : decode cL_law 103 = .ok (.aload_n 0, 1) := by decide +kernel
theorem dL_law_104 : decode cL_law 104 = .ok (.iload 4, 2) := by decide +kernel
theorem dL_law_106 : decode cL_law 106 = .ok (.iconst 2, 1) := by decide +kernel
theorem dL_law_107 : decode cL_law 107 = .ok (.iadd, 1) := by decide +kernel
theorem dL_law_108 : decode cL_law 108 = .ok (.iaload, 1) := by decide +kernel
theorem dL_law_109 : decode cL_law 109 = .ok (.aload_n 0, 1) := by decide +kernel
theorem dL_law_110 : decode cL_law 110 = .ok (.iload 4, 2) := by decide +kernel
theorem dL_law_112 : decode cL_law 112 = .ok (.iconst 3, 1) := by decide +kernel
theorem dL_law_113 : decode cL_law 113 = .ok (.iadd, 1) := by decide +kernel
theorem dL_law_114 : decode cL_law 114 = .ok (.iaload, 1) := by decide +kernel
theorem dL_law_115 : decode cL_law 115 = .ok (.aload_n 0, 1) := by decide +kernel
theorem dL_law_116 : decode cL_law 116 = .ok (.iload 4, 2) := by decide +kernel
theorem dL_law_118 : decode cL_law 118 = .ok (.iconst 4, 1) := by decide +kernel
theorem dL_law_119 : decode cL_law 119 = .ok (.iadd, 1) := by decide +kernel
theorem dL_law_120 : decode cL_law 120 = .ok (.iaload, 1) := by decide +kernel
theorem dL_law_121 : decode cL_law 121 = .ok (.aload_n 0, 1) := by decide +kernel
theorem dL_law_122 : decode cL_law 122 = .ok (.iload 4, 2) := by decide +kernel
theorem dL_law_124 : decode cL_law 124 = .ok (.iconst 5, 1) := by decide +kernel
theorem dL_law_125 : decode cL_law 125 = .ok (.iadd, 1) := by decide +kernel
theorem dL_law_126 : decode cL_law 126 = .ok (.iaload, 1) := by decide +kernel
theorem dL_law_127 : decode cL_law 127 = .ok (.invokestatic 49, 3) := by decide +kernel
theorem dL_law_130 : decode cL_law 130 = .ok (.istore 5, 2) := by decide +kernel
theorem dL_law_132 : decode cL_law 132 = .ok (.aload_n 2, 1) := by decide +kernel
theorem dL_law_133 : decode cL_law 133 = .ok (.aload_n 0, 1) := by decide +kernel
theorem dL_law_134 : decode cL_law 134 = .ok (.iload 4, 2) := by decide +kernel
theorem dL_law_136 : decode cL_law 136 = .ok (.iconst 1, 1) := by decide +kernel
theorem dL_law_137 : decode cL_law 137 = .ok (.iadd, 1) := by decide +kernel
theorem dL_law_138 : decode cL_law 138 = .ok (.iaload, 1) := by decide +kernel
theorem dL_law_139 : decode cL_law 139 = .ok (.aload_n 0, 1) := by decide +kernel
theorem dL_law_140 : decode cL_law 140 = .ok (.iload 4, 2) := by decide +kernel
theorem dL_law_142 : decode cL_law 142 = .ok (.iconst 2, 1) := by decide +kernel
theorem dL_law_143 : decode cL_law 143 = .ok (.iadd, 1) := by decide +kernel
theorem dL_law_144 : decode cL_law 144 = .ok (.iaload, 1) := by decide +kernel
theorem dL_law_145 : decode cL_law 145 = .ok (.aload_n 0, 1) := by decide +kernel
theorem dL_law_146 : decode cL_law 146 = .ok (.iload 4, 2) := by decide +kernel
theorem dL_law_148 : decode cL_law 148 = .ok (.iconst 3, 1) := by decide +kernel
theorem dL_law_149 : decode cL_law 149 = .ok (.iadd, 1) := by decide +kernel
theorem dL_law_150 : decode cL_law 150 = .ok (.iaload, 1) := by decide +kernel
theorem dL_law_151 : decode cL_law 151 = .ok (.aload_n 0, 1) := by decide +kernel
theorem dL_law_152 : decode cL_law 152 = .ok (.iload 4, 2) := by decide +kernel
theorem dL_law_154 : decode cL_law 154 = .ok (.iconst 4, 1) := by decide +kernel
theorem dL_law_155 : decode cL_law 155 = .ok (.iadd, 1) := by decide +kernel
theorem dL_law_156 : decode cL_law 156 = .ok (.iaload, 1) := by decide +kernel
theorem dL_law_157 : decode cL_law 157 = .ok (.aload_n 0, 1) := by decide +kernel
theorem dL_law_158 : decode cL_law 158 = .ok (.iload 4, 2) := by decide +kernel
theorem dL_law_160 : decode cL_law 160 = .ok (.iconst 5, 1) := by decide +kernel
theorem dL_law_161 : decode cL_law 161 = .ok (.iadd, 1) := by decide +kernel
theorem dL_law_162 : decode cL_law 162 = .ok (.iaload, 1) := by decide +kernel
theorem dL_law_163 : decode cL_law 163 = .ok (.invokevirtual 54, 3) := by decide +kernel
theorem dL_law_166 : decode cL_law 166 = .ok (.aload_n 2, 1) := by decide +kernel
theorem dL_law_167 : decode cL_law 167 = .ok (.invokevirtual 55, 3) := by decide +kernel
theorem dL_law_170 : decode cL_law 170 = .ok (.iload 5, 2) := by decide +kernel
theorem dL_law_172 : decode cL_law 172 = .ok (.if_icmp .eq 5, 3) := by decide +kernel
theorem dL_law_175 : decode cL_law 175 = .ok (.iconst 0, 1) := by decide +kernel
theorem dL_law_176 : decode cL_law 176 = .ok (.ireturn, 1) := by decide +kernel
theorem dL_law_177 : decode cL_law 177 = .ok (.goto 567, 3) := by decide +kernel
theorem dL_law_180 : decode cL_law 180 = .ok (.aload_n 1, 1) := by decide +kernel
theorem dL_law_181 : decode cL_law 181 = .ok (.aload_n 0, 1) := by decide +kernel
theorem dL_law_182 : decode cL_law 182 = .ok (.iload 4, 2) := by decide +kernel
theorem dL_law_184 : decode cL_law 184 = .ok (.iconst 1, 1) := by decide +kernel
theorem dL_law_185 : decode cL_law 185 = .ok (.iadd, 1) := by decide +kernel
theorem dL_law_186 : decode cL_law 186 = .ok (.iaload, 1) := by decide +kernel
theorem dL_law_187 : decode cL_law 187 = .ok (.aload_n 0, 1) := by decide +kernel
theorem dL_law_188 : decode cL_law 188 = .ok (.iload 4, 2) := by decide +kernel
theorem dL_law_190 : decode cL_law 190 = .ok (.iconst 2, 1) := by decide +kernel
theorem dL_law_191 : decode cL_law 191 = .ok (.iadd, 1) := by decide +kernel
theorem dL_law_192 : decode cL_law 192 = .ok (.iaload, 1) := by decide +kernel
theorem dL_law_193 : decode cL_law 193 = .ok (.aload_n 3, 1) := by decide +kernel
theorem dL_law_194 : decode cL_law 194 = .ok (.invokestatic 59, 3) := by decide +kernel
theorem dL_law_197 : decode cL_law 197 = .ok (.istore 5, 2) := by decide +kernel
theorem dL_law_199 : decode cL_law 199 = .ok (.aload_n 2, 1) := by decide +kernel
theorem dL_law_200 : decode cL_law 200 = .ok (.aload_n 0, 1) := by decide +kernel
theorem dL_law_201 : decode cL_law 201 = .ok (.iload 4, 2) := by decide +kernel
theorem dL_law_203 : decode cL_law 203 = .ok (.iconst 1, 1) := by decide +kernel
theorem dL_law_204 : decode cL_law 204 = .ok (.iadd, 1) := by decide +kernel
theorem dL_law_205 : decode cL_law 205 = .ok (.iaload, 1) := by decide +kernel
theorem dL_law_206 : decode cL_law 206 = .ok (.aload_n 0, 1) := by decide +kernel
theorem dL_law_207 : decode cL_law 207 = .ok (.iload 4, 2) := by decide +kernel
theorem dL_law_209 : decode cL_law 209 = .ok (.iconst 2, 1) := by decide +kernel
theorem dL_law_210 : decode cL_law 210 = .ok (.iadd, 1) := by decide +kernel
theorem dL_law_211 : decode cL_law 211 = .ok (.iaload, 1) := by decide +kernel
theorem dL_law_212 : decode cL_law 212 = .ok (.invokevirtual 62, 3) := by decide +kernel
theorem dL_law_215 : decode cL_law 215 = .ok (.istore 6, 2) := by decide +kernel
theorem dL_law_217 : decode cL_law 217 = .ok (.aload_n 2, 1) := by decide +kernel
theorem dL_law_218 : decode cL_law 218 = .ok (.invokevirtual 55, 3) := by decide +kernel
theorem dL_law_221 : decode cL_law 221 = .ok (.iload 5, 2) := by decide +kernel
theorem dL_law_223 : decode cL_law 223 = .ok (.if_icmp .eq 5, 3) := by decide +kernel
theorem dL_law_226 : decode cL_law 226 = .ok (.iconst 0, 1) := by decide +kernel
theorem dL_law_227 : decode cL_law 227 = .ok (.ireturn, 1) := by decide +kernel
theorem dL_law_228 : decode cL_law 228 = .ok (.iload 5, 2) := by decide +kernel
theorem dL_law_230 : decode cL_law 230 = .ok (.ifCond .ne 15, 3) := by decide +kernel
theorem dL_law_233 : decode cL_law 233 = .ok (.aload_n 3, 1) := by decide +kernel
theorem dL_law_234 : decode cL_law 234 = .ok (.iconst 0, 1) := by decide +kernel
theorem dL_law_235 : decode cL_law 235 = .ok (.laload, 1) := by decide +kernel
theorem dL_law_236 : decode cL_law 236 = .ok (.iload 6, 2) := by decide +kernel
theorem dL_law_238 : decode cL_law 238 = .ok (.i2l, 1) := by decide +kernel
theorem dL_law_239 : decode cL_law 239 = .ok (.lcmp, 1) := by decide +kernel
theorem dL_law_240 : decode cL_law 240 = .ok (.ifCond .eq 5, 3) := by decide +kernel
theorem dL_law_243 : decode cL_law 243 = .ok (.iconst 0, 1) := by decide +kernel
theorem dL_law_244 : decode cL_law 244 = .ok (.ireturn, 1) := by decide +kernel
theorem dL_law_245 : decode cL_law 245 = .ok (.goto 499, 3) := by decide +kernel
theorem dL_law_248 : decode cL_law 248 = .ok (.aload_n 1, 1) := by decide +kernel
theorem dL_law_249 : decode cL_law 249 = .ok (.aload_n 0, 1) := by decide +kernel
theorem dL_law_250 : decode cL_law 250 = .ok (.iload 4, 2) := by decide +kernel
theorem dL_law_252 : decode cL_law 252 = .ok (.iconst 1, 1) := by decide +kernel
theorem dL_law_253 : decode cL_law 253 = .ok (.iadd, 1) := by decide +kernel
theorem dL_law_254 : decode cL_law 254 = .ok (.iaload, 1) := by decide +kernel
theorem dL_law_255 : decode cL_law 255 = .ok (.aload_n 0, 1) := by decide +kernel
theorem dL_law_256 : decode cL_law 256 = .ok (.iload 4, 2) := by decide +kernel
theorem dL_law_258 : decode cL_law 258 = .ok (.iconst 2, 1) := by decide +kernel
theorem dL_law_259 : decode cL_law 259 = .ok (.iadd, 1) := by decide +kernel
theorem dL_law_260 : decode cL_law 260 = .ok (.iaload, 1) := by decide +kernel
theorem dL_law_261 : decode cL_law 261 = .ok (.aload_n 3, 1) := by decide +kernel
theorem dL_law_262 : decode cL_law 262 = .ok (.invokestatic 63, 3) := by decide +kernel
theorem dL_law_265 : decode cL_law 265 = .ok (.istore 5, 2) := by decide +kernel
theorem dL_law_267 : decode cL_law 267 = .ok (.aload_n 2, 1) := by decide +kernel
theorem dL_law_268 : decode cL_law 268 = .ok (.aload_n 0, 1) := by decide +kernel
theorem dL_law_269 : decode cL_law 269 = .ok (.iload 4, 2) := by decide +kernel
theorem dL_law_271 : decode cL_law 271 = .ok (.iconst 1, 1) := by decide +kernel
theorem dL_law_272 : decode cL_law 272 = .ok (.iadd, 1) := by decide +kernel
theorem dL_law_273 : decode cL_law 273 = .ok (.iaload, 1) := by decide +kernel
theorem dL_law_274 : decode cL_law 274 = .ok (.aload_n 0, 1) := by decide +kernel
theorem dL_law_275 : decode cL_law 275 = .ok (.iload 4, 2) := by decide +kernel
theorem dL_law_277 : decode cL_law 277 = .ok (.iconst 2, 1) := by decide +kernel
theorem dL_law_278 : decode cL_law 278 = .ok (.iadd, 1) := by decide +kernel
theorem dL_law_279 : decode cL_law 279 = .ok (.iaload, 1) := by decide +kernel
theorem dL_law_280 : decode cL_law 280 = .ok (.invokevirtual 65, 3) := by decide +kernel
theorem dL_law_283 : decode cL_law 283 = .ok (.istore 6, 2) := by decide +kernel
theorem dL_law_285 : decode cL_law 285 = .ok (.aload_n 2, 1) := by decide +kernel
theorem dL_law_286 : decode cL_law 286 = .ok (.invokevirtual 55, 3) := by decide +kernel
theorem dL_law_289 : decode cL_law 289 = .ok (.iload 5, 2) := by decide +kernel
theorem dL_law_291 : decode cL_law 291 = .ok (.if_icmp .eq 5, 3) := by decide +kernel
theorem dL_law_294 : decode cL_law 294 = .ok (.iconst 0, 1) := by decide +kernel
theorem dL_law_295 : decode cL_law 295 = .ok (.ireturn, 1) := by decide +kernel
theorem dL_law_296 : decode cL_law 296 = .ok (.iload 5, 2) := by decide +kernel
theorem dL_law_298 : decode cL_law 298 = .ok (.ifCond .ne 22, 3) := by decide +kernel
theorem dL_law_301 : decode cL_law 301 = .ok (.aload_n 3, 1) := by decide +kernel
theorem dL_law_302 : decode cL_law 302 = .ok (.iconst 0, 1) := by decide +kernel
theorem dL_law_303 : decode cL_law 303 = .ok (.laload, 1) := by decide +kernel
theorem dL_law_304 : decode cL_law 304 = .ok (.iload 6, 2) := by decide +kernel
theorem dL_law_306 : decode cL_law 306 = .ok (.ifCond .eq 7, 3) := by decide +kernel
theorem dL_law_309 : decode cL_law 309 = .ok (.lconst 1, 1) := by decide +kernel
theorem dL_law_310 : decode cL_law 310 = .ok (.goto 4, 3) := by decide +kernel
theorem dL_law_313 : decode cL_law 313 = .ok (.lconst 0, 1) := by decide +kernel
theorem dL_law_314 : decode cL_law 314 = .ok (.lcmp, 1) := by decide +kernel
theorem dL_law_315 : decode cL_law 315 = .ok (.ifCond .eq 5, 3) := by decide +kernel
theorem dL_law_318 : decode cL_law 318 = .ok (.iconst 0, 1) := by decide +kernel
theorem dL_law_319 : decode cL_law 319 = .ok (.ireturn, 1) := by decide +kernel
theorem dL_law_320 : decode cL_law 320 = .ok (.goto 424, 3) := by decide +kernel
theorem dL_law_323 : decode cL_law 323 = .ok (.aload_n 1, 1) := by decide +kernel
theorem dL_law_324 : decode cL_law 324 = .ok (.aload_n 0, 1) := by decide +kernel
theorem dL_law_325 : decode cL_law 325 = .ok (.iload 4, 2) := by decide +kernel
theorem dL_law_327 : decode cL_law 327 = .ok (.iconst 1, 1) := by decide +kernel
theorem dL_law_328 : decode cL_law 328 = .ok (.iadd, 1) := by decide +kernel
theorem dL_law_329 : decode cL_law 329 = .ok (.iaload, 1) := by decide +kernel
theorem dL_law_330 : decode cL_law 330 = .ok (.aload_n 3, 1) := by decide +kernel
theorem dL_law_331 : decode cL_law 331 = .ok (.invokestatic 66, 3) := by decide +kernel
theorem dL_law_334 : decode cL_law 334 = .ok (.istore 5, 2) := by decide +kernel
theorem dL_law_336 : decode cL_law 336 = .ok (.aload_n 2, 1) := by decide +kernel
theorem dL_law_337 : decode cL_law 337 = .ok (.aload_n 0, 1) := by decide +kernel
theorem dL_law_338 : decode cL_law 338 = .ok (.iload 4, 2) := by decide +kernel
theorem dL_law_340 : decode cL_law 340 = .ok (.iconst 1, 1) := by decide +kernel
theorem dL_law_341 : decode cL_law 341 = .ok (.iadd, 1) := by decide +kernel
theorem dL_law_342 : decode cL_law 342 = .ok (.iaload, 1) := by decide +kernel
theorem dL_law_343 : decode cL_law 343 = .ok (.invokevirtual 69, 3) := by decide +kernel
theorem dL_law_346 : decode cL_law 346 = .ok (.istore 6, 2) := by decide +kernel
theorem dL_law_348 : decode cL_law 348 = .ok (.aload_n 2, 1) := by decide +kernel
theorem dL_law_349 : decode cL_law 349 = .ok (.invokevirtual 55, 3) := by decide +kernel
theorem dL_law_352 : decode cL_law 352 = .ok (.iload 5, 2) := by decide +kernel
theorem dL_law_354 : decode cL_law 354 = .ok (.if_icmp .eq 5, 3) := by decide +kernel
theorem dL_law_357 : decode cL_law 357 = .ok (.iconst 0, 1) := by decide +kernel
theorem dL_law_358 : decode cL_law 358 = .ok (.ireturn, 1) := by decide +kernel
theorem dL_law_359 : decode cL_law 359 = .ok (.iload 5, 2) := by decide +kernel
theorem dL_law_361 : decode cL_law 361 = .ok (.ifCond .ne 15, 3) := by decide +kernel
theorem dL_law_364 : decode cL_law 364 = .ok (.aload_n 3, 1) := by decide +kernel
theorem dL_law_365 : decode cL_law 365 = .ok (.iconst 0, 1) := by decide +kernel
theorem dL_law_366 : decode cL_law 366 = .ok (.laload, 1) := by decide +kernel
theorem dL_law_367 : decode cL_law 367 = .ok (.iload 6, 2) := by decide +kernel
theorem dL_law_369 : decode cL_law 369 = .ok (.i2l, 1) := by decide +kernel
theorem dL_law_370 : decode cL_law 370 = .ok (.lcmp, 1) := by decide +kernel
theorem dL_law_371 : decode cL_law 371 = .ok (.ifCond .eq 5, 3) := by decide +kernel
theorem dL_law_374 : decode cL_law 374 = .ok (.iconst 0, 1) := by decide +kernel
theorem dL_law_375 : decode cL_law 375 = .ok (.ireturn, 1) := by decide +kernel
theorem dL_law_376 : decode cL_law 376 = .ok (.goto 368, 3) := by decide +kernel
theorem dL_law_379 : decode cL_law 379 = .ok (.aload_n 1, 1) := by decide +kernel
theorem dL_law_380 : decode cL_law 380 = .ok (.aload_n 0, 1) := by decide +kernel
theorem dL_law_381 : decode cL_law 381 = .ok (.iload 4, 2) := by decide +kernel
theorem dL_law_383 : decode cL_law 383 = .ok (.iconst 1, 1) := by decide +kernel
theorem dL_law_384 : decode cL_law 384 = .ok (.iadd, 1) := by decide +kernel
theorem dL_law_385 : decode cL_law 385 = .ok (.iaload, 1) := by decide +kernel
theorem dL_law_386 : decode cL_law 386 = .ok (.aload_n 3, 1) := by decide +kernel
theorem dL_law_387 : decode cL_law 387 = .ok (.invokestatic 70, 3) := by decide +kernel
theorem dL_law_390 : decode cL_law 390 = .ok (.istore 5, 2) := by decide +kernel
theorem dL_law_392 : decode cL_law 392 = .ok (.aload_n 2, 1) := by decide +kernel
theorem dL_law_393 : decode cL_law 393 = .ok (.aload_n 0, 1) := by decide +kernel
theorem dL_law_394 : decode cL_law 394 = .ok (.iload 4, 2) := by decide +kernel
theorem dL_law_396 : decode cL_law 396 = .ok (.iconst 1, 1) := by decide +kernel
theorem dL_law_397 : decode cL_law 397 = .ok (.iadd, 1) := by decide +kernel
theorem dL_law_398 : decode cL_law 398 = .ok (.iaload, 1) := by decide +kernel
theorem dL_law_399 : decode cL_law 399 = .ok (.invokevirtual 72, 3) := by decide +kernel
theorem dL_law_402 : decode cL_law 402 = .ok (.istore 6, 2) := by decide +kernel
theorem dL_law_404 : decode cL_law 404 = .ok (.aload_n 2, 1) := by decide +kernel
theorem dL_law_405 : decode cL_law 405 = .ok (.invokevirtual 55, 3) := by decide +kernel
theorem dL_law_408 : decode cL_law 408 = .ok (.iload 5, 2) := by decide +kernel
theorem dL_law_410 : decode cL_law 410 = .ok (.if_icmp .eq 5, 3) := by decide +kernel
theorem dL_law_413 : decode cL_law 413 = .ok (.iconst 0, 1) := by decide +kernel
theorem dL_law_414 : decode cL_law 414 = .ok (.ireturn, 1) := by decide +kernel
theorem dL_law_415 : decode cL_law 415 = .ok (.iload 5, 2) := by decide +kernel
theorem dL_law_417 : decode cL_law 417 = .ok (.ifCond .ne 15, 3) := by decide +kernel
theorem dL_law_420 : decode cL_law 420 = .ok (.aload_n 3, 1) := by decide +kernel
theorem dL_law_421 : decode cL_law 421 = .ok (.iconst 0, 1) := by decide +kernel
theorem dL_law_422 : decode cL_law 422 = .ok (.laload, 1) := by decide +kernel
theorem dL_law_423 : decode cL_law 423 = .ok (.iload 6, 2) := by decide +kernel
theorem dL_law_425 : decode cL_law 425 = .ok (.i2l, 1) := by decide +kernel
theorem dL_law_426 : decode cL_law 426 = .ok (.lcmp, 1) := by decide +kernel
theorem dL_law_427 : decode cL_law 427 = .ok (.ifCond .eq 5, 3) := by decide +kernel
theorem dL_law_430 : decode cL_law 430 = .ok (.iconst 0, 1) := by decide +kernel
theorem dL_law_431 : decode cL_law 431 = .ok (.ireturn, 1) := by decide +kernel
theorem dL_law_432 : decode cL_law 432 = .ok (.goto 312, 3) := by decide +kernel
theorem dL_law_435 : decode cL_law 435 = .ok (.aload_n 1, 1) := by decide +kernel
theorem dL_law_436 : decode cL_law 436 = .ok (.aload_n 0, 1) := by decide +kernel
theorem dL_law_437 : decode cL_law 437 = .ok (.iload 4, 2) := by decide +kernel
theorem dL_law_439 : decode cL_law 439 = .ok (.iconst 1, 1) := by decide +kernel
theorem dL_law_440 : decode cL_law 440 = .ok (.iadd, 1) := by decide +kernel
theorem dL_law_441 : decode cL_law 441 = .ok (.iaload, 1) := by decide +kernel
theorem dL_law_442 : decode cL_law 442 = .ok (.invokevirtual 73, 3) := by decide +kernel
theorem dL_law_445 : decode cL_law 445 = .ok (.aload_n 2, 1) := by decide +kernel
theorem dL_law_446 : decode cL_law 446 = .ok (.aload_n 0, 1) := by decide +kernel
theorem dL_law_447 : decode cL_law 447 = .ok (.iload 4, 2) := by decide +kernel
theorem dL_law_449 : decode cL_law 449 = .ok (.iconst 1, 1) := by decide +kernel
theorem dL_law_450 : decode cL_law 450 = .ok (.iadd, 1) := by decide +kernel
theorem dL_law_451 : decode cL_law 451 = .ok (.iaload, 1) := by decide +kernel
theorem dL_law_452 : decode cL_law 452 = .ok (.invokevirtual 76, 3) := by decide +kernel
theorem dL_law_455 : decode cL_law 455 = .ok (.if_icmp .eq 289, 3) := by decide +kernel
theorem dL_law_458 : decode cL_law 458 = .ok (.iconst 0, 1) := by decide +kernel
theorem dL_law_459 : decode cL_law 459 = .ok (.ireturn, 1) := by decide +kernel
theorem dL_law_460 : decode cL_law 460 = .ok (.aload_n 1, 1) := by decide +kernel
theorem dL_law_461 : decode cL_law 461 = .ok (.aload_n 0, 1) := by decide +kernel
theorem dL_law_462 : decode cL_law 462 = .ok (.iload 4, 2) := by decide +kernel
theorem dL_law_464 : decode cL_law 464 = .ok (.iconst 1, 1) := by decide +kernel
theorem dL_law_465 : decode cL_law 465 = .ok (.iadd, 1) := by decide +kernel
theorem dL_law_466 : decode cL_law 466 = .ok (.iaload, 1) := by decide +kernel
theorem dL_law_467 : decode cL_law 467 = .ok (.aload_n 0, 1) := by decide +kernel
theorem dL_law_468 : decode cL_law 468 = .ok (.iload 4, 2) := by decide +kernel
theorem dL_law_470 : decode cL_law 470 = .ok (.iconst 2, 1) := by decide +kernel
theorem dL_law_471 : decode cL_law 471 = .ok (.iadd, 1) := by decide +kernel
theorem dL_law_472 : decode cL_law 472 = .ok (.iaload, 1) := by decide +kernel
theorem dL_law_473 : decode cL_law 473 = .ok (.aload_n 3, 1) := by decide +kernel
theorem dL_law_474 : decode cL_law 474 = .ok (.invokestatic 77, 3) := by decide +kernel
theorem dL_law_477 : decode cL_law 477 = .ok (.istore 5, 2) := by decide +kernel
theorem dL_law_479 : decode cL_law 479 = .ok (.aload_n 2, 1) := by decide +kernel
theorem dL_law_480 : decode cL_law 480 = .ok (.aload_n 0, 1) := by decide +kernel
theorem dL_law_481 : decode cL_law 481 = .ok (.iload 4, 2) := by decide +kernel
theorem dL_law_483 : decode cL_law 483 = .ok (.iconst 1, 1) := by decide +kernel
theorem dL_law_484 : decode cL_law 484 = .ok (.iadd, 1) := by decide +kernel
theorem dL_law_485 : decode cL_law 485 = .ok (.iaload, 1) := by decide +kernel
theorem dL_law_486 : decode cL_law 486 = .ok (.aload_n 0, 1) := by decide +kernel
theorem dL_law_487 : decode cL_law 487 = .ok (.iload 4, 2) := by decide +kernel
theorem dL_law_489 : decode cL_law 489 = .ok (.iconst 2, 1) := by decide +kernel
theorem dL_law_490 : decode cL_law 490 = .ok (.iadd, 1) := by decide +kernel
theorem dL_law_491 : decode cL_law 491 = .ok (.iaload, 1) := by decide +kernel
theorem dL_law_492 : decode cL_law 492 = .ok (.invokevirtual 79, 3) := by decide +kernel
theorem dL_law_495 : decode cL_law 495 = .ok (.istore 6, 2) := by decide +kernel
theorem dL_law_497 : decode cL_law 497 = .ok (.aload_n 2, 1) := by decide +kernel
theorem dL_law_498 : decode cL_law 498 = .ok (.invokevirtual 55, 3) := by decide +kernel
theorem dL_law_501 : decode cL_law 501 = .ok (.iload 5, 2) := by decide +kernel
theorem dL_law_503 : decode cL_law 503 = .ok (.if_icmp .eq 5, 3) := by decide +kernel
theorem dL_law_506 : decode cL_law 506 = .ok (.iconst 0, 1) := by decide +kernel
theorem dL_law_507 : decode cL_law 507 = .ok (.ireturn, 1) := by decide +kernel
theorem dL_law_508 : decode cL_law 508 = .ok (.iload 5, 2) := by decide +kernel
theorem dL_law_510 : decode cL_law 510 = .ok (.ifCond .ne 15, 3) := by decide +kernel
theorem dL_law_513 : decode cL_law 513 = .ok (.aload_n 3, 1) := by decide +kernel
theorem dL_law_514 : decode cL_law 514 = .ok (.iconst 0, 1) := by decide +kernel
theorem dL_law_515 : decode cL_law 515 = .ok (.laload, 1) := by decide +kernel
theorem dL_law_516 : decode cL_law 516 = .ok (.iload 6, 2) := by decide +kernel
theorem dL_law_518 : decode cL_law 518 = .ok (.i2l, 1) := by decide +kernel
theorem dL_law_519 : decode cL_law 519 = .ok (.lcmp, 1) := by decide +kernel
theorem dL_law_520 : decode cL_law 520 = .ok (.ifCond .eq 5, 3) := by decide +kernel
theorem dL_law_523 : decode cL_law 523 = .ok (.iconst 0, 1) := by decide +kernel
theorem dL_law_524 : decode cL_law 524 = .ok (.ireturn, 1) := by decide +kernel
theorem dL_law_525 : decode cL_law 525 = .ok (.goto 219, 3) := by decide +kernel
theorem dL_law_528 : decode cL_law 528 = .ok (.aload_n 1, 1) := by decide +kernel
theorem dL_law_529 : decode cL_law 529 = .ok (.aload_n 0, 1) := by decide +kernel
theorem dL_law_530 : decode cL_law 530 = .ok (.iload 4, 2) := by decide +kernel
theorem dL_law_532 : decode cL_law 532 = .ok (.iconst 1, 1) := by decide +kernel
theorem dL_law_533 : decode cL_law 533 = .ok (.iadd, 1) := by decide +kernel
theorem dL_law_534 : decode cL_law 534 = .ok (.iaload, 1) := by decide +kernel
theorem dL_law_535 : decode cL_law 535 = .ok (.aload_n 0, 1) := by decide +kernel
theorem dL_law_536 : decode cL_law 536 = .ok (.iload 4, 2) := by decide +kernel
theorem dL_law_538 : decode cL_law 538 = .ok (.iconst 2, 1) := by decide +kernel
theorem dL_law_539 : decode cL_law 539 = .ok (.iadd, 1) := by decide +kernel
theorem dL_law_540 : decode cL_law 540 = .ok (.iaload, 1) := by decide +kernel
theorem dL_law_541 : decode cL_law 541 = .ok (.aload_n 0, 1) := by decide +kernel
theorem dL_law_542 : decode cL_law 542 = .ok (.iload 4, 2) := by decide +kernel
theorem dL_law_544 : decode cL_law 544 = .ok (.iconst 3, 1) := by decide +kernel
theorem dL_law_545 : decode cL_law 545 = .ok (.iadd, 1) := by decide +kernel
theorem dL_law_546 : decode cL_law 546 = .ok (.iaload, 1) := by decide +kernel
theorem dL_law_547 : decode cL_law 547 = .ok (.aload_n 3, 1) := by decide +kernel
theorem dL_law_548 : decode cL_law 548 = .ok (.invokestatic 80, 3) := by decide +kernel
theorem dL_law_551 : decode cL_law 551 = .ok (.istore 5, 2) := by decide +kernel
theorem dL_law_553 : decode cL_law 553 = .ok (.aload_n 2, 1) := by decide +kernel
theorem dL_law_554 : decode cL_law 554 = .ok (.aload_n 0, 1) := by decide +kernel
theorem dL_law_555 : decode cL_law 555 = .ok (.iload 4, 2) := by decide +kernel
theorem dL_law_557 : decode cL_law 557 = .ok (.iconst 1, 1) := by decide +kernel
theorem dL_law_558 : decode cL_law 558 = .ok (.iadd, 1) := by decide +kernel
theorem dL_law_559 : decode cL_law 559 = .ok (.iaload, 1) := by decide +kernel
theorem dL_law_560 : decode cL_law 560 = .ok (.aload_n 0, 1) := by decide +kernel
theorem dL_law_561 : decode cL_law 561 = .ok (.iload 4, 2) := by decide +kernel
theorem dL_law_563 : decode cL_law 563 = .ok (.iconst 2, 1) := by decide +kernel
theorem dL_law_564 : decode cL_law 564 = .ok (.iadd, 1) := by decide +kernel
theorem dL_law_565 : decode cL_law 565 = .ok (.iaload, 1) := by decide +kernel
theorem dL_law_566 : decode cL_law 566 = .ok (.aload_n 0, 1) := by decide +kernel
theorem dL_law_567 : decode cL_law 567 = .ok (.iload 4, 2) := by decide +kernel
theorem dL_law_569 : decode cL_law 569 = .ok (.iconst 3, 1) := by decide +kernel
theorem dL_law_570 : decode cL_law 570 = .ok (.iadd, 1) := by decide +kernel
theorem dL_law_571 : decode cL_law 571 = .ok (.iaload, 1) := by decide +kernel
theorem dL_law_572 : decode cL_law 572 = .ok (.invokevirtual 83, 3) := by decide +kernel
theorem dL_law_575 : decode cL_law 575 = .ok (.istore 6, 2) := by decide +kernel
theorem dL_law_577 : decode cL_law 577 = .ok (.aload_n 2, 1) := by decide +kernel
theorem dL_law_578 : decode cL_law 578 = .ok (.invokevirtual 55, 3) := by decide +kernel
theorem dL_law_581 : decode cL_law 581 = .ok (.iload 5, 2) := by decide +kernel
theorem dL_law_583 : decode cL_law 583 = .ok (.if_icmp .eq 5, 3) := by decide +kernel
theorem dL_law_586 : decode cL_law 586 = .ok (.iconst 0, 1) := by decide +kernel
theorem dL_law_587 : decode cL_law 587 = .ok (.ireturn, 1) := by decide +kernel
theorem dL_law_588 : decode cL_law 588 = .ok (.iload 5, 2) := by decide +kernel
theorem dL_law_590 : decode cL_law 590 = .ok (.ifCond .ne 15, 3) := by decide +kernel
theorem dL_law_593 : decode cL_law 593 = .ok (.aload_n 3, 1) := by decide +kernel
theorem dL_law_594 : decode cL_law 594 = .ok (.iconst 0, 1) := by decide +kernel
theorem dL_law_595 : decode cL_law 595 = .ok (.laload, 1) := by decide +kernel
theorem dL_law_596 : decode cL_law 596 = .ok (.iload 6, 2) := by decide +kernel
theorem dL_law_598 : decode cL_law 598 = .ok (.i2l, 1) := by decide +kernel
theorem dL_law_599 : decode cL_law 599 = .ok (.lcmp, 1) := by decide +kernel
theorem dL_law_600 : decode cL_law 600 = .ok (.ifCond .eq 5, 3) := by decide +kernel
theorem dL_law_603 : decode cL_law 603 = .ok (.iconst 0, 1) := by decide +kernel
theorem dL_law_604 : decode cL_law 604 = .ok (.ireturn, 1) := by decide +kernel
theorem dL_law_605 : decode cL_law 605 = .ok (.goto 139, 3) := by decide +kernel
theorem dL_law_608 : decode cL_law 608 = .ok (.aload_n 1, 1) := by decide +kernel
theorem dL_law_609 : decode cL_law 609 = .ok (.aload_n 0, 1) := by decide +kernel
theorem dL_law_610 : decode cL_law 610 = .ok (.iload 4, 2) := by decide +kernel
theorem dL_law_612 : decode cL_law 612 = .ok (.iconst 1, 1) := by decide +kernel
theorem dL_law_613 : decode cL_law 613 = .ok (.iadd, 1) := by decide +kernel
theorem dL_law_614 : decode cL_law 614 = .ok (.iaload, 1) := by decide +kernel
theorem dL_law_615 : decode cL_law 615 = .ok (.aload_n 0, 1) := by decide +kernel
theorem dL_law_616 : decode cL_law 616 = .ok (.iload 4, 2) := by decide +kernel
theorem dL_law_618 : decode cL_law 618 = .ok (.iconst 2, 1) := by decide +kernel
theorem dL_law_619 : decode cL_law 619 = .ok (.iadd, 1) := by decide +kernel
theorem dL_law_620 : decode cL_law 620 = .ok (.iaload, 1) := by decide +kernel
theorem dL_law_621 : decode cL_law 621 = .ok (.aload_n 0, 1) := by decide +kernel
theorem dL_law_622 : decode cL_law 622 = .ok (.iload 4, 2) := by decide +kernel
theorem dL_law_624 : decode cL_law 624 = .ok (.iconst 3, 1) := by decide +kernel
theorem dL_law_625 : decode cL_law 625 = .ok (.iadd, 1) := by decide +kernel
theorem dL_law_626 : decode cL_law 626 = .ok (.iaload, 1) := by decide +kernel
theorem dL_law_627 : decode cL_law 627 = .ok (.aload_n 3, 1) := by decide +kernel
theorem dL_law_628 : decode cL_law 628 = .ok (.invokestatic 84, 3) := by decide +kernel
theorem dL_law_631 : decode cL_law 631 = .ok (.istore 5, 2) := by decide +kernel
theorem dL_law_633 : decode cL_law 633 = .ok (.aload_n 2, 1) := by decide +kernel
theorem dL_law_634 : decode cL_law 634 = .ok (.aload_n 0, 1) := by decide +kernel
theorem dL_law_635 : decode cL_law 635 = .ok (.iload 4, 2) := by decide +kernel
theorem dL_law_637 : decode cL_law 637 = .ok (.iconst 1, 1) := by decide +kernel
theorem dL_law_638 : decode cL_law 638 = .ok (.iadd, 1) := by decide +kernel
theorem dL_law_639 : decode cL_law 639 = .ok (.iaload, 1) := by decide +kernel
theorem dL_law_640 : decode cL_law 640 = .ok (.aload_n 0, 1) := by decide +kernel
theorem dL_law_641 : decode cL_law 641 = .ok (.iload 4, 2) := by decide +kernel
theorem dL_law_643 : decode cL_law 643 = .ok (.iconst 2, 1) := by decide +kernel
theorem dL_law_644 : decode cL_law 644 = .ok (.iadd, 1) := by decide +kernel
theorem dL_law_645 : decode cL_law 645 = .ok (.iaload, 1) := by decide +kernel
theorem dL_law_646 : decode cL_law 646 = .ok (.aload_n 0, 1) := by decide +kernel
theorem dL_law_647 : decode cL_law 647 = .ok (.iload 4, 2) := by decide +kernel
theorem dL_law_649 : decode cL_law 649 = .ok (.iconst 3, 1) := by decide +kernel
theorem dL_law_650 : decode cL_law 650 = .ok (.iadd, 1) := by decide +kernel
theorem dL_law_651 : decode cL_law 651 = .ok (.iaload, 1) := by decide +kernel
theorem dL_law_652 : decode cL_law 652 = .ok (.invokevirtual 86, 3) := by decide +kernel
theorem dL_law_655 : decode cL_law 655 = .ok (.istore 6, 2) := by decide +kernel
theorem dL_law_657 : decode cL_law 657 = .ok (.aload_n 2, 1) := by decide +kernel
theorem dL_law_658 : decode cL_law 658 = .ok (.invokevirtual 55, 3) := by decide +kernel
theorem dL_law_661 : decode cL_law 661 = .ok (.iload 5, 2) := by decide +kernel
theorem dL_law_663 : decode cL_law 663 = .ok (.if_icmp .eq 5, 3) := by decide +kernel
theorem dL_law_666 : decode cL_law 666 = .ok (.iconst 0, 1) := by decide +kernel
theorem dL_law_667 : decode cL_law 667 = .ok (.ireturn, 1) := by decide +kernel
theorem dL_law_668 : decode cL_law 668 = .ok (.iload 5, 2) := by decide +kernel
theorem dL_law_670 : decode cL_law 670 = .ok (.ifCond .ne 15, 3) := by decide +kernel
theorem dL_law_673 : decode cL_law 673 = .ok (.aload_n 3, 1) := by decide +kernel
theorem dL_law_674 : decode cL_law 674 = .ok (.iconst 0, 1) := by decide +kernel
theorem dL_law_675 : decode cL_law 675 = .ok (.laload, 1) := by decide +kernel
theorem dL_law_676 : decode cL_law 676 = .ok (.iload 6, 2) := by decide +kernel
theorem dL_law_678 : decode cL_law 678 = .ok (.i2l, 1) := by decide +kernel
theorem dL_law_679 : decode cL_law 679 = .ok (.lcmp, 1) := by decide +kernel
theorem dL_law_680 : decode cL_law 680 = .ok (.ifCond .eq 5, 3) := by decide +kernel
theorem dL_law_683 : decode cL_law 683 = .ok (.iconst 0, 1) := by decide +kernel
theorem dL_law_684 : decode cL_law 684 = .ok (.ireturn, 1) := by decide +kernel
theorem dL_law_685 : decode cL_law 685 = .ok (.goto 59, 3) := by decide +kernel
theorem dL_law_688 : decode cL_law 688 = .ok (.aload_n 1, 1) := by decide +kernel
theorem dL_law_689 : decode cL_law 689 = .ok (.aload_n 0, 1) := by decide +kernel
theorem dL_law_690 : decode cL_law 690 = .ok (.iload 4, 2) := by decide +kernel
theorem dL_law_692 : decode cL_law 692 = .ok (.iconst 1, 1) := by decide +kernel
theorem dL_law_693 : decode cL_law 693 = .ok (.iadd, 1) := by decide +kernel
theorem dL_law_694 : decode cL_law 694 = .ok (.iaload, 1) := by decide +kernel
theorem dL_law_695 : decode cL_law 695 = .ok (.aload_n 3, 1) := by decide +kernel
theorem dL_law_696 : decode cL_law 696 = .ok (.invokestatic 87, 3) := by decide +kernel
theorem dL_law_699 : decode cL_law 699 = .ok (.istore 5, 2) := by decide +kernel
theorem dL_law_701 : decode cL_law 701 = .ok (.aload_n 2, 1) := by decide +kernel
theorem dL_law_702 : decode cL_law 702 = .ok (.aload_n 0, 1) := by decide +kernel
theorem dL_law_703 : decode cL_law 703 = .ok (.iload 4, 2) := by decide +kernel
theorem dL_law_705 : decode cL_law 705 = .ok (.iconst 1, 1) := by decide +kernel
theorem dL_law_706 : decode cL_law 706 = .ok (.iadd, 1) := by decide +kernel
theorem dL_law_707 : decode cL_law 707 = .ok (.iaload, 1) := by decide +kernel
theorem dL_law_708 : decode cL_law 708 = .ok (.invokevirtual 89, 3) := by decide +kernel
theorem dL_law_711 : decode cL_law 711 = .ok (.istore 6, 2) := by decide +kernel
theorem dL_law_713 : decode cL_law 713 = .ok (.aload_n 2, 1) := by decide +kernel
theorem dL_law_714 : decode cL_law 714 = .ok (.invokevirtual 55, 3) := by decide +kernel
theorem dL_law_717 : decode cL_law 717 = .ok (.iload 5, 2) := by decide +kernel
theorem dL_law_719 : decode cL_law 719 = .ok (.if_icmp .eq 5, 3) := by decide +kernel
theorem dL_law_722 : decode cL_law 722 = .ok (.iconst 0, 1) := by decide +kernel
theorem dL_law_723 : decode cL_law 723 = .ok (.ireturn, 1) := by decide +kernel
theorem dL_law_724 : decode cL_law 724 = .ok (.iload 5, 2) := by decide +kernel
theorem dL_law_726 : decode cL_law 726 = .ok (.ifCond .ne 15, 3) := by decide +kernel
theorem dL_law_729 : decode cL_law 729 = .ok (.aload_n 3, 1) := by decide +kernel
theorem dL_law_730 : decode cL_law 730 = .ok (.iconst 0, 1) := by decide +kernel
theorem dL_law_731 : decode cL_law 731 = .ok (.laload, 1) := by decide +kernel
theorem dL_law_732 : decode cL_law 732 = .ok (.iload 6, 2) := by decide +kernel
theorem dL_law_734 : decode cL_law 734 = .ok (.i2l, 1) := by decide +kernel
theorem dL_law_735 : decode cL_law 735 = .ok (.lcmp, 1) := by decide +kernel
theorem dL_law_736 : decode cL_law 736 = .ok (.ifCond .eq 5, 3) := by decide +kernel
theorem dL_law_739 : decode cL_law 739 = .ok (.iconst 0, 1) := by decide +kernel
theorem dL_law_740 : decode cL_law 740 = .ok (.ireturn, 1) := by decide +kernel
theorem dL_law_741 : decode cL_law 741 = .ok (.goto 3, 3) := by decide +kernel
theorem dL_law_744 : decode cL_law 744 = .ok (.iinc 4 6, 3) := by decide +kernel
theorem dL_law_747 : decode cL_law 747 = .ok (.goto (-724), 3) := by decide +kernel
theorem dL_law_750 : decode cL_law 750 = .ok (.iconst 1, 1) := by decide +kernel
theorem dL_law_751 : decode cL_law 751 = .ok (.ireturn, 1) := by decide +kernel
