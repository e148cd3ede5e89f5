theorem dL_ticks_336 : decode cL_ticks 336 = .ok (.iconst 1, 1) := by decide +kernel
theorem dL_ticks_337 : decode cL_ticks 337 = .ok (.if_icmp .ne 38, 3) := by decide +kernel
theorem dL_ticks_340 : decode cL_ticks 340 = .ok (.iload 24, 2) := by decide +kernel
theorem dL_ticks_342 : decode cL_ticks 342 = .ok (.iload 26, 2) := by decide +kernel
theorem dL_ticks_344 : decode cL_ticks 344 = .ok (.ifCond .eq 8, 3) := by decide +kernel
theorem dL_ticks_347 : decode cL_ticks 347 = .ok (.iload 17, 2) := by decide +kernel
theorem dL_ticks_349 : decode cL_ticks 349 = .ok (.goto 4, 3) := by decide +kernel
theorem dL_ticks_352 : decode cL_ticks 352 = .ok (.iconst 0, 1) := by decide +kernel
theorem dL_ticks_353 : decode cL_ticks 353 = .ok (.if_icmp .ne 159, 3) := by decide +kernel
theorem dL_ticks_356 : decode cL_ticks 356 = .ok (.aload_n 0, 1) := by decide +kernel
theorem dL_ticks_357 : decode cL_ticks 357 = .ok (.bipush 14, 2) := by decide +kernel
theorem dL_ticks_359 : decode cL_ticks 359 = .ok (.invokestatic 127, 3) := by decide +kernel
theorem dL_ticks_362 : decode cL_ticks 362 = .ok (.iload 26, 2) := by decide +kernel
theorem dL_ticks_364 : decode cL_ticks 364 = .ok (.ifCond .eq 7, 3) := by decide +kernel
theorem dL_ticks_367 : decode cL_ticks 367 = .ok (.iconst 1, 1) := by decide +kernel
theorem dL_ticks_368 : decode cL_ticks 368 = .ok (.goto 4, 3) := by decide +kernel
theorem dL_ticks_371 : decode cL_ticks 371 = .ok (.iconst 0, 1) := by decide +kernel
theorem dL_ticks_372 : decode cL_ticks 372 = .ok (.if_icmp .ne 140, 3) := by decide +kernel
theorem dL_ticks_375 : decode cL_ticks 375 = .ok (.aload_n 0, 1) := by decide +kernel
theorem dL_ticks_376 : decode cL_ticks 376 = .ok (.iconst 5, 1) := by decide +kernel
theorem dL_ticks_377 : decode cL_ticks 377 = .ok (.invokestatic 139, 3) := by decide +kernel
theorem dL_ticks_380 : decode cL_ticks 380 = .ok (.iload 19, 2) := by decide +kernel
theorem dL_ticks_382 : decode cL_ticks 382 = .ok (.iload 14, 2) := by decide +kernel
theorem dL_ticks_384 : decode cL_ticks 384 = .ok (.iconst 1, 1) := by decide +kernel
theorem dL_ticks_385 : decode cL_ticks 385 = .ok (.if_icmp .ne 21, 3) := by decide +kernel
theorem dL_ticks_388 : decode cL_ticks 388 = .ok (.iload 13, 2) := by decide +kernel
theorem dL_ticks_390 : decode cL_ticks 390 = .ok (.iload 15, 2) := by decide +kernel
theorem dL_ticks_392 : decode cL_ticks 392 = .ok (.if_icmp .ge 14, 3) := by decide +kernel
theorem dL_ticks_395 : decode cL_ticks 395 = .ok (.iload 23, 2) := by decide +kernel
theorem dL_ticks_397 : decode cL_ticks 397 = .ok (.iload 15, 2) := by decide +kernel
theorem dL_ticks_399 : decode cL_ticks 399 = .ok (.if_icmp .lt 7, 3) := by decide +kernel
theorem dL_ticks_402 : decode cL_ticks 402 = .ok (.iconst 1, 1) := by decide +kernel
theorem dL_ticks_403 : decode cL_ticks 403 = .ok (.goto 4, 3) := by decide +kernel
theorem dL_ticks_406 : decode cL_ticks 406 = .ok (.iconst 0, 1) := by decide +kernel
theorem dL_ticks_407 : decode cL_ticks 407 = .ok (.iadd, 1) := by decide +kernel
theorem dL_ticks_408 : decode cL_ticks 408 = .ok (.if_icmp .ne 104, 3) := by decide +kernel
theorem dL_ticks_411 : decode cL_ticks 411 = .ok (.iload 14, 2) := by decide +kernel
theorem dL_ticks_413 : decode cL_ticks 413 = .ok (.iconst 2, 1) := by decide +kernel
theorem dL_ticks_414 : decode cL_ticks 414 = .ok (.if_icmp .eq 14, 3) := by decide +kernel
theorem dL_ticks_417 : decode cL_ticks 417 = .ok (.aload_n 0, 1) := by decide +kernel
theorem dL_ticks_418 : decode cL_ticks 418 = .ok (.bipush 15, 2) := by decide +kernel
theorem dL_ticks_420 : decode cL_ticks 420 = .ok (.invokestatic 127, 3) := by decide +kernel
theorem dL_ticks_423 : decode cL_ticks 423 = .ok (.iload 22, 2) := by decide +kernel
theorem dL_ticks_425 : decode cL_ticks 425 = .ok (.if_icmp .ne 87, 3) := by decide +kernel
theorem dL_ticks_428 : decode cL_ticks 428 = .ok (.iload 25, 2) := by decide +kernel
theorem dL_ticks_430 : decode cL_ticks 430 = .ok (.ifCond .eq 31, 3) := by decide +kernel
theorem dL_ticks_433 : decode cL_ticks 433 = .ok (.iload 23, 2) := by decide +kernel
theorem dL_ticks_435 : decode cL_ticks 435 = .ok (.iload 13, 2) := by decide +kernel
theorem dL_ticks_437 : decode cL_ticks 437 = .ok (.isub, 1) := by decide +kernel
theorem dL_ticks_438 : decode cL_ticks 438 = .ok (.aload_n 0, 1) := by decide +kernel
theorem dL_ticks_439 : decode cL_ticks 439 = .ok (.iconst 3, 1) := by decide +kernel
theorem dL_ticks_440 : decode cL_ticks 440 = .ok (.invokestatic 127, 3) := by decide +kernel
theorem dL_ticks_443 : decode cL_ticks 443 = .ok (.aload_n 0, 1) := by decide +kernel
theorem dL_ticks_444 : decode cL_ticks 444 = .ok (.iconst 0, 1) := by decide +kernel
theorem dL_ticks_445 : decode cL_ticks 445 = .ok (.invokestatic 127, 3) := by decide +kernel
theorem dL_ticks_448 : decode cL_ticks 448 = .ok (.iload 17, 2) := by decide +kernel
theorem dL_ticks_450 : decode cL_ticks 450 = .ok (.imul, 1) := by decide +kernel
theorem dL_ticks_451 : decode cL_ticks 451 = .ok (.iadd, 1) := by decide +kernel
theorem dL_ticks_452 : decode cL_ticks 452 = .ok (.iload 13, 2) := by decide +kernel
theorem dL_ticks_454 : decode cL_ticks 454 = .ok (.isub, 1) := by decide +kernel
theorem dL_ticks_455 : decode cL_ticks 455 = .ok (.invokestatic 120, 3) := by decide +kernel
theorem dL_ticks_458 : decode cL_ticks 458 = .ok (.if_icmp .gt 54, 3) := by decide +kernel
theorem dL_ticks_461 : decode cL_ticks 461 = .ok (.iload 14, 2) := by decide +kernel
theorem dL_ticks_463 : decode cL_ticks 463 = .ok (.iconst 2, 1) := by decide +kernel
theorem dL_ticks_464 : decode cL_ticks 464 = .ok (.if_icmp .ne 37, 3) := by decide +kernel
theorem dL_ticks_467 : decode cL_ticks 467 = .ok (.aload_n 0, 1) := by decide +kernel
theorem dL_ticks_468 : decode cL_ticks 468 = .ok (.bipush 15, 2) := by decide +kernel
theorem dL_ticks_470 : decode cL_ticks 470 = .ok (.invokestatic 127, 3) := by decide +kernel
theorem dL_ticks_473 : decode cL_ticks 473 = .ok (.iload 22, 2) := by decide +kernel
theorem dL_ticks_475 : decode cL_ticks 475 = .ok (.if_icmp .eq 26, 3) := by decide +kernel
theorem dL_ticks_478 : decode cL_ticks 478 = .ok (.aload_n 0, 1) := by decide +kernel
theorem dL_ticks_479 : decode cL_ticks 479 = .ok (.bipush 15, 2) := by decide +kernel
theorem dL_ticks_481 : decode cL_ticks 481 = .ok (.invokestatic 127, 3) := by decide +kernel
theorem dL_ticks_484 : decode cL_ticks 484 = .ok (.iload 22, 2) := by decide +kernel
theorem dL_ticks_486 : decode cL_ticks 486 = .ok (.isub, 1) := by decide +kernel
theorem dL_ticks_487 : decode cL_ticks 487 = .ok (.invokestatic 120, 3) := by decide +kernel
theorem dL_ticks_490 : decode cL_ticks 490 = .ok (.iload 15, 2) := by decide +kernel
theorem dL_ticks_492 : decode cL_ticks 492 = .ok (.iload 13, 2) := by decide +kernel
theorem dL_ticks_494 : decode cL_ticks 494 = .ok (.isub, 1) := by decide +kernel
theorem dL_ticks_495 : decode cL_ticks 495 = .ok (.invokestatic 120, 3) := by decide +kernel
theorem dL_ticks_498 : decode cL_ticks 498 = .ok (.if_icmp .gt 14, 3) := by decide +kernel
theorem dL_ticks_501 : decode cL_ticks 501 = .ok (.aload_n 0, 1) := by decide +kernel
theorem dL_ticks_502 : decode cL_ticks 502 = .ok (.invokestatic 202, 3) := by decide +kernel
theorem dL_ticks_505 : decode cL_ticks 505 = .ok (.ifCond .eq 7, 3) := by decide +kernel
theorem dL_ticks_508 : decode cL_ticks 508 = .ok (.iconst 1, 1) := by decide +kernel
theorem dL_ticks_509 : decode cL_ticks 509 = .ok (.goto 4, 3) := by decide +kernel
theorem dL_ticks_512 : decode cL_ticks 512 = .ok (.iconst 0, 1) := by decide +kernel
theorem dL_ticks_513 : decode cL_ticks 513 = .ok (.istore 11, 2) := by decide +kernel
theorem dL_ticks_515 : decode cL_ticks 515 = .ok (.iinc 12 1, 3) := by decide +kernel
theorem dL_ticks_518 : decode cL_ticks 518 = .ok (.goto (-417), 3) := by decide +kernel
theorem dL_ticks_521 : decode cL_ticks 521 = .ok (.iload 11, 2) := by decide +kernel
theorem dL_ticks_523 : decode cL_ticks 523 = .ok (.ifCond .eq 49, 3) := by decide +kernel
theorem dL_ticks_526 : decode cL_ticks 526 = .ok (.aload_n 0, 1) := by decide +kernel
theorem dL_ticks_527 : decode cL_ticks 527 = .ok (.bipush 12, 2) := by decide +kernel
theorem dL_ticks_529 : decode cL_ticks 529 = .ok (.invokestatic 127, 3) := by decide +kernel
theorem dL_ticks_532 : decode cL_ticks 532 = .ok (.iload_n 3, 1) := by decide +kernel
theorem dL_ticks_533 : decode cL_ticks 533 = .ok (.if_icmp .ne 39, 3) := by decide +kernel
theorem dL_ticks_536 : decode cL_ticks 536 = .ok (.iload 8, 2) := by decide +kernel
theorem dL_ticks_538 : decode cL_ticks 538 = .ok (.iload 4, 2) := by decide +kernel
theorem dL_ticks_540 : decode cL_ticks 540 = .ok (.if_icmp .ne 32, 3) := by decide +kernel
theorem dL_ticks_543 : decode cL_ticks 543 = .ok (.iload 9, 2) := by decide +kernel
theorem dL_ticks_545 : decode cL_ticks 545 = .ok (.iload 5, 2) := by decide +kernel
theorem dL_ticks_547 : decode cL_ticks 547 = .ok (.if_icmp .ne 25, 3) := by decide +kernel
theorem dL_ticks_550 : decode cL_ticks 550 = .ok (.aload_n 0, 1) := by decide +kernel
theorem dL_ticks_551 : decode cL_ticks 551 = .ok (.bipush 16, 2) := by decide +kernel
theorem dL_ticks_553 : decode cL_ticks 553 = .ok (.invokestatic 127, 3) := by decide +kernel
theorem dL_ticks_556 : decode cL_ticks 556 = .ok (.iload 6, 2) := by decide +kernel
theorem dL_ticks_558 : decode cL_ticks 558 = .ok (.if_icmp .ne 14, 3) := by decide +kernel
theorem dL_ticks_561 : decode cL_ticks 561 = .ok (.iload 10, 2) := by decide +kernel
theorem dL_ticks_563 : decode cL_ticks 563 = .ok (.iload 7, 2) := by decide +kernel
theorem dL_ticks_565 : decode cL_ticks 565 = .ok (.if_icmp .ne 7, 3) := by decide +kernel
theorem dL_ticks_568 : decode cL_ticks 568 = .ok (.iconst 1, 1) := by decide +kernel
theorem dL_ticks_569 : decode cL_ticks 569 = .ok (.goto 4, 3) := by decide +kernel
theorem dL_ticks_572 : decode cL_ticks 572 = .ok (.iconst 0, 1) := by decide +kernel
theorem dL_ticks_573 : decode cL_ticks 573 = .ok (.ireturn, 1) := by decide +kernel
theorem dL_steps_0 : decode cL_steps 0 = .ok (.iconst 1, 1) := by decide +kernel
theorem dL_steps_1 : decode cL_steps 1 = .ok (.istore_n 1, 1) := by decide +kernel
theorem dL_steps_2 : decode cL_steps 2 = .ok (.iconst 0, 1) := by decide +kernel
theorem dL_steps_3 : decode cL_steps 3 = .ok (.istore_n 2, 1) := by decide +kernel
theorem dL_steps_4 : decode cL_steps 4 = .ok (.iload_n 2, 1) := by decide +kernel
theorem dL_steps_5 : decode cL_steps 5 = .ok (.bipush 12, 2) := by decide +kernel
theorem dL_steps_7 : decode cL_steps 7 = .ok (.if_icmp .ge 125, 3) := by decide +kernel
theorem dL_steps_10 : decode cL_steps 10 = .ok (.iload_n 1, 1) := by decide +kernel
theorem dL_steps_11 : decode cL_steps 11 = .ok (.ifCond .eq 121, 3) := by decide +kernel
theorem dL_steps_14 : decode cL_steps 14 = .ok (.aload_n 0, 1) := by decide +kernel
theorem dL_steps_15 : decode cL_steps 15 = .ok (.iconst 2, 1) := by decide +kernel
theorem dL_steps_16 : decode cL_steps 16 = .ok (.invokestatic 127, 3) := by decide +kernel
theorem dL_steps_19 : decode cL_steps 19 = .ok (.ifCond .ne 113, 3) := by decide +kernel
theorem dL_steps_22 : decode cL_steps 22 = .ok (.aload_n 0, 1) := by decide +kernel
theorem dL_steps_23 : decode cL_steps 23 = .ok (.bipush 12, 2) := by decide +kernel
theorem dL_steps_25 : decode cL_steps 25 = .ok (.invokestatic 127, 3) := by decide +kernel
theorem dL_steps_28 : decode cL_steps 28 = .ok (.istore_n 3, 1) := by decide +kernel
theorem dL_steps_29 : decode cL_steps 29 = .ok (.aload_n 0, 1) := by decide +kernel
theorem dL_steps_30 : decode cL_steps 30 = .ok (.iconst 1, 1) := by decide +kernel
theorem dL_steps_31 : decode cL_steps 31 = .ok (.invokestatic 150, 3) := by decide +kernel
theorem dL_steps_34 : decode cL_steps 34 = .ok (.istore 4, 2) := by decide +kernel
theorem dL_steps_36 : decode cL_steps 36 = .ok (.aload_n 0, 1) := by decide +kernel
theorem dL_steps_37 : decode cL_steps 37 = .ok (.iconst 3, 1) := by decide +kernel
theorem dL_steps_38 : decode cL_steps 38 = .ok (.invokestatic 127, 3) := by decide +kernel
theorem dL_steps_41 : decode cL_steps 41 = .ok (.aload_n 0, 1) := by decide +kernel
theorem dL_steps_42 : decode cL_steps 42 = .ok (.iconst 0, 1) := by decide +kernel
theorem dL_steps_43 : decode cL_steps 43 = .ok (.invokestatic 127, 3) := by decide +kernel
theorem dL_steps_46 : decode cL_steps 46 = .ok (.aload_n 0, 1) := by decide +kernel
theorem dL_steps_47 : decode cL_steps 47 = .ok (.bipush 19, 2) := by decide +kernel
theorem dL_steps_49 : decode cL_steps 49 = .ok (.invokestatic 127, 3) := by decide +kernel
theorem dL_steps_52 : decode cL_steps 52 = .ok (.imul, 1) := by decide +kernel
theorem dL_steps_53 : decode cL_steps 53 = .ok (.iadd, 1) := by decide +kernel
theorem dL_steps_54 : decode cL_steps 54 = .ok (.iload_n 3, 1) := by decide +kernel
theorem dL_steps_55 : decode cL_steps 55 = .ok (.isub, 1) := by decide +kernel
theorem dL_steps_56 : decode cL_steps 56 = .ok (.istore 5, 2) := by decide +kernel
theorem dL_steps_58 : decode cL_steps 58 = .ok (.iload 5, 2) := by decide +kernel
theorem dL_steps_60 : decode cL_steps 60 = .ok (.invokestatic 120, 3) := by decide +kernel
theorem dL_steps_63 : decode cL_steps 63 = .ok (.aload_n 0, 1) := by decide +kernel
theorem dL_steps_64 : decode cL_steps 64 = .ok (.iconst 1, 1) := by decide +kernel
theorem dL_steps_65 : decode cL_steps 65 = .ok (.invokestatic 127, 3) := by decide +kernel
theorem dL_steps_68 : decode cL_steps 68 = .ok (.idiv, 1) := by decide +kernel
theorem dL_steps_69 : decode cL_steps 69 = .ok (.istore 6, 2) := by decide +kernel
theorem dL_steps_71 : decode cL_steps 71 = .ok (.iload 6, 2) := by decide +kernel
theorem dL_steps_73 : decode cL_steps 73 = .ok (.ifCond .ne 12, 3) := by decide +kernel
theorem dL_steps_76 : decode cL_steps 76 = .ok (.iload 5, 2) := by decide +kernel
theorem dL_steps_78 : decode cL_steps 78 = .ok (.ifCond .eq 7, 3) := by decide +kernel
theorem dL_steps_81 : decode cL_steps 81 = .ok (.iconst 1, 1) := by decide +kernel
theorem dL_steps_82 : decode cL_steps 82 = .ok (.goto 5, 3) := by decide +kernel
theorem dL_steps_85 : decode cL_steps 85 = .ok (.iload 6, 2) := by decide +kernel
theorem dL_steps_87 : decode cL_steps 87 = .ok (.istore 6, 2) := by decide +kernel
theorem dL_steps_89 : decode cL_steps 89 = .ok (.iload 4, 2) := by decide +kernel
theorem dL_steps_91 : decode cL_steps 91 = .ok (.iload_n 3, 1) := by decide +kernel
theorem dL_steps_92 : decode cL_steps 92 = .ok (.iload 5, 2) := by decide +kernel
theorem dL_steps_94 : decode cL_steps 94 = .ok (.ifCond .ge 9, 3) := by decide +kernel
theorem dL_steps_97 : decode cL_steps 97 = .ok (.iload 6, 2) := by decide +kernel
theorem dL_steps_99 : decode cL_steps 99 = .ok (.ineg, 1) := by decide +kernel
theorem dL_steps_100 : decode cL_steps 100 = .ok (.goto 5, 3) := by decide +kernel
theorem dL_steps_103 : decode cL_steps 103 = .ok (.iload 6, 2) := by decide +kernel
theorem dL_steps_105 : decode cL_steps 105 = .ok (.iadd, 1) := by decide +kernel
theorem dL_steps_106 : decode cL_steps 106 = .ok (.if_icmp .eq 14, 3) := by decide +kernel
theorem dL_steps_109 : decode cL_steps 109 = .ok (.iload 4, 2) := by decide +kernel
theorem dL_steps_111 : decode cL_steps 111 = .ok (.invokestatic 120, 3) := by decide +kernel
theorem dL_steps_114 : decode cL_steps 114 = .ok (.sipush 9999, 3) := by decide +kernel
theorem dL_steps_117 : decode cL_steps 117 = .ok (.if_icmp .ne 7, 3) := by decide +kernel
theorem dL_steps_120 : decode cL_steps 120 = .ok (.iconst 1, 1) := by decide +kernel
theorem dL_steps_121 : decode cL_steps 121 = .ok (.goto 4, 3) := by decide +kernel
theorem dL_steps_124 : decode cL_steps 124 = .ok (.iconst 0, 1) := by decide +kernel
theorem dL_steps_125 : decode cL_steps 125 = .ok (.istore_n 1, 1) := by decide +kernel
theorem dL_steps_126 : decode cL_steps 126 = .ok (.iinc 2 1, 3) := by decide +kernel
theorem dL_steps_129 : decode cL_steps 129 = .ok (.goto (-125), 3) := by decide +kernel
theorem dL_steps_132 : decode cL_steps 132 = .ok (.iload_n 1, 1) := by decide +kernel
theorem dL_steps_133 : decode cL_steps 133 = .ok (.ireturn, 1) := by decide +kernel
theorem dL_hands_0 : decode cL_hands 0 = .ok (.aload_n 0, 1) := by decide +kernel
theorem dL_hands_1 : decode cL_hands 1 = .ok (.bipush 13, 2) := by decide +kernel
theorem dL_hands_3 : decode cL_hands 3 = .ok (.invokestatic 127, 3) := by decide +kernel
theorem dL_hands_6 : decode cL_hands 6 = .ok (.istore_n 2, 1) := by decide +kernel
theorem dL_hands_7 : decode cL_hands 7 = .ok (.aload_n 0, 1) := by decide +kernel
theorem dL_hands_8 : decode cL_hands 8 = .ok (.bipush 16, 2) := by decide +kernel
theorem dL_hands_10 : decode cL_hands 10 = .ok (.invokestatic 127, 3) := by decide +kernel
theorem dL_hands_13 : decode cL_hands 13 = .ok (.istore_n 3, 1) := by decide +kernel
theorem dL_hands_14 : decode cL_hands 14 = .ok (.aload_n 0, 1) := by decide +kernel
theorem dL_hands_15 : decode cL_hands 15 = .ok (.bipush 17, 2) := by decide +kernel
theorem dL_hands_17 : decode cL_hands 17 = .ok (.invokestatic 127, 3) := by decide +kernel
theorem dL_hands_20 : decode cL_hands 20 = .ok (.istore 4, 2) := by decide +kernel
theorem dL_hands_22 : decode cL_hands 22 = .ok (.aload_n 0, 1) := by decide +kernel
theorem dL_hands_23 : decode cL_hands 23 = .ok (.bipush 18, 2) := by decide +kernel
theorem dL_hands_25 : decode cL_hands 25 = .ok (.invokestatic 127, 3) := by decide +kernel
theorem dL_hands_28 : decode cL_hands 28 = .ok (.istore 5, 2) := by decide +kernel
theorem dL_hands_30 : decode cL_hands 30 = .ok (.iload_n 1, 1) := by decide +kernel
theorem dL_hands_31 : decode cL_hands 31 = .ok (.iconst 4, 1) := by decide +kernel
theorem dL_hands_32 : decode cL_hands 32 = .ok (.irem, 1) := by decide +kernel
theorem dL_hands_33 : decode cL_hands 33 = .ok (.istore 6, 2) := by decide +kernel
theorem dL_hands_35 : decode cL_hands 35 = .ok (.iconst 1, 1) := by decide +kernel
theorem dL_hands_36 : decode cL_hands 36 = .ok (.iload_n 1, 1) := by decide +kernel
theorem dL_hands_37 : decode cL_hands 37 = .ok (.iconst 4, 1) := by decide +kernel
theorem dL_hands_38 : decode cL_hands 38 = .ok (.idiv, 1) := by decide +kernel
theorem dL_hands_39 : decode cL_hands 39 = .ok (.bipush 60, 2) := by decide +kernel
theorem dL_hands_41 : decode cL_hands 41 = .ok (.irem, 1) := by decide +kernel
theorem dL_hands_42 : decode cL_hands 42 = .ok (.iadd, 1) := by decide +kernel
theorem dL_hands_43 : decode cL_hands 43 = .ok (.istore 7, 2) := by decide +kernel
theorem dL_hands_45 : decode cL_hands 45 = .ok (.aload_n 0, 1) := by decide +kernel
theorem dL_hands_46 : decode cL_hands 46 = .ok (.bipush 11, 2) := by decide +kernel
theorem dL_hands_48 : decode cL_hands 48 = .ok (.invokestatic 127, 3) := by decide +kernel
theorem dL_hands_51 : decode cL_hands 51 = .ok (.istore 8, 2) := by decide +kernel
theorem dL_hands_53 : decode cL_hands 53 = .ok (.aload_n 0, 1) := by decide +kernel
theorem dL_hands_54 : decode cL_hands 54 = .ok (.iconst 0, 1) := by decide +kernel
theorem dL_hands_55 : decode cL_hands 55 = .ok (.invokestatic 196, 3) := by decide +kernel
theorem dL_hands_58 : decode cL_hands 58 = .ok (.iload_n 2, 1) := by decide +kernel
theorem dL_hands_59 : decode cL_hands 59 = .ok (.if_icmp .ne 7, 3) := by decide +kernel
theorem dL_hands_62 : decode cL_hands 62 = .ok (.iconst 1, 1) := by decide +kernel
theorem dL_hands_63 : decode cL_hands 63 = .ok (.goto 4, 3) := by decide +kernel
theorem dL_hands_66 : decode cL_hands 66 = .ok (.iconst 0, 1) := by decide +kernel
theorem dL_hands_67 : decode cL_hands 67 = .ok (.istore 9, 2) := by decide +kernel
theorem dL_hands_69 : decode cL_hands 69 = .ok (.aload_n 0, 1) := by decide +kernel
theorem dL_hands_70 : decode cL_hands 70 = .ok (.iload 6, 2) := by decide +kernel
theorem dL_hands_72 : decode cL_hands 72 = .ok (.iconst 0, 1) := by decide +kernel
theorem dL_hands_73 : decode cL_hands 73 = .ok (.invokestatic 167, 3) := by decide +kernel
theorem dL_hands_76 : decode cL_hands 76 = .ok (.istore 10, 2) := by decide +kernel
theorem dL_hands_78 : decode cL_hands 78 = .ok (.aload_n 0, 1) := by decide +kernel
theorem dL_hands_79 : decode cL_hands 79 = .ok (.iload 6, 2) := by decide +kernel
theorem dL_hands_81 : decode cL_hands 81 = .ok (.iconst 1, 1) := by decide +kernel
theorem dL_hands_82 : decode cL_hands 82 = .ok (.invokestatic 167, 3) := by decide +kernel
theorem dL_hands_85 : decode cL_hands 85 = .ok (.istore 11, 2) := by decide +kernel
theorem dL_hands_87 : decode cL_hands 87 = .ok (.aload_n 0, 1) := by decide +kernel
theorem dL_hands_88 : decode cL_hands 88 = .ok (.iload 6, 2) := by decide +kernel
theorem dL_hands_90 : decode cL_hands 90 = .ok (.iconst 2, 1) := by decide +kernel
theorem dL_hands_91 : decode cL_hands 91 = .ok (.invokestatic 167, 3) := by decide +kernel
theorem dL_hands_94 : decode cL_hands 94 = .ok (.istore 12, 2) := by decide +kernel
theorem dL_hands_96 : decode cL_hands 96 = .ok (.aload_n 0, 1) := by decide +kernel
theorem dL_hands_97 : decode cL_hands 97 = .ok (.iload 6, 2) := by decide +kernel
theorem dL_hands_99 : decode cL_hands 99 = .ok (.iload 7, 2) := by decide +kernel
theorem dL_hands_101 : decode cL_hands 101 = .ok (.iconst 4, 1) := by decide +kernel
theorem dL_hands_102 : decode cL_hands 102 = .ok (.invokestatic 176, 3) := by decide +kernel
theorem dL_hands_105 : decode cL_hands 105 = .ok (.istore 13, 2) := by decide +kernel
theorem dL_hands_107 : decode cL_hands 107 = .ok (.aload_n 0, 1) := by decide +kernel
theorem dL_hands_108 : decode cL_hands 108 = .ok (.iload 7, 2) := by decide +kernel
theorem dL_hands_110 : decode cL_hands 110 = .ok (.invokestatic 180, 3) := by decide +kernel
theorem dL_hands_113 : decode cL_hands 113 = .ok (.istore 14, 2) := by decide +kernel
theorem dL_hands_115 : decode cL_hands 115 = .ok (.iload 9, 2) := by decide +kernel
theorem dL_hands_117 : decode cL_hands 117 = .ok (.ifCond .eq 82, 3) := by decide +kernel
theorem dL_hands_120 : decode cL_hands 120 = .ok (.iload 4, 2) := by decide +kernel
theorem dL_hands_122 : decode cL_hands 122 = .ok (.ifCond .ne 7, 3) := by decide +kernel
theorem dL_hands_125 : decode cL_hands 125 = .ok (.iconst 1, 1) := by decide +kernel
theorem dL_hands_126 : decode cL_hands 126 = .ok (.goto 4, 3) := by decide +kernel
theorem dL_hands_129 : decode cL_hands 129 = .ok (.iconst 0, 1) := by decide +kernel
theorem dL_hands_130 : decode cL_hands 130 = .ok (.iload 10, 2) := by decide +kernel
theorem dL_hands_132 : decode cL_hands 132 = .ok (.ldc 119, 2) := by decide +kernel
theorem dL_hands_134 : decode cL_hands 134 = .ok (.if_icmp .ne 7, 3) := by decide +kernel
theorem dL_hands_137 : decode cL_hands 137 = .ok (.iconst 1, 1) := by decide +kernel
theorem dL_hands_138 : decode cL_hands 138 = .ok (.goto 4, 3) := by decide +kernel
theorem dL_hands_141 : decode cL_hands 141 = .ok (.iconst 0, 1) := by decide +kernel
theorem dL_hands_142 : decode cL_hands 142 = .ok (.if_icmp .ne 57, 3) := by decide +kernel
theorem dL_hands_145 : decode cL_hands 145 = .ok (.iload 4, 2) := by decide +kernel
theorem dL_hands_147 : decode cL_hands 147 = .ok (.ifCond .ne 7, 3) := by decide +kernel
theorem dL_hands_150 : decode cL_hands 150 = .ok (.iconst 1, 1) := by decide +kernel
theorem dL_hands_151 : decode cL_hands 151 = .ok (.goto 4, 3) := by decide +kernel
theorem dL_hands_154 : decode cL_hands 154 = .ok (.iconst 0, 1) := by decide +kernel
theorem dL_hands_155 : decode cL_hands 155 = .ok (.iload 13, 2) := by decide +kernel
theorem dL_hands_157 : decode cL_hands 157 = .ok (.ldc 119, 2) := by decide +kernel
theorem dL_hands_159 : decode cL_hands 159 = .ok (.if_icmp .ne 7, 3) := by decide +kernel
theorem dL_hands_162 : decode cL_hands 162 = .ok (.iconst 1, 1) := by decide +kernel
theorem dL_hands_163 : decode cL_hands 163 = .ok (.goto 4, 3) := by decide +kernel
theorem dL_hands_166 : decode cL_hands 166 = .ok (.iconst 0, 1) := by decide +kernel
theorem dL_hands_167 : decode cL_hands 167 = .ok (.if_icmp .ne 32, 3) := by decide +kernel
theorem dL_hands_170 : decode cL_hands 170 = .ok (.iload 4, 2) := by decide +kernel
theorem dL_hands_172 : decode cL_hands 172 = .ok (.ifCond .ne 7, 3) := by decide +kernel
theorem dL_hands_175 : decode cL_hands 175 = .ok (.iconst 1, 1) := by decide +kernel
theorem dL_hands_176 : decode cL_hands 176 = .ok (.goto 4, 3) := by decide +kernel
theorem dL_hands_179 : decode cL_hands 179 = .ok (.iconst 0, 1) := by decide +kernel
theorem dL_hands_180 : decode cL_hands 180 = .ok (.iload 14, 2) := by decide +kernel
theorem dL_hands_182 : decode cL_hands 182 = .ok (.ldc 119, 2) := by decide +kernel
theorem dL_hands_184 : decode cL_hands 184 = .ok (.if_icmp .ne 7, 3) := by decide +kernel
theorem dL_hands_187 : decode cL_hands 187 = .ok (.iconst 1, 1) := by decide +kernel
theorem dL_hands_188 : decode cL_hands 188 = .ok (.goto 4, 3) := by decide +kernel
theorem dL_hands_191 : decode cL_hands 191 = .ok (.iconst 0, 1) := by decide +kernel
theorem dL_hands_192 : decode cL_hands 192 = .ok (.if_icmp .ne 7, 3) := by decide +kernel
theorem dL_hands_195 : decode cL_hands 195 = .ok (.iconst 1, 1) := by decide +kernel
theorem dL_hands_196 : decode cL_hands 196 = .ok (.goto 4, 3) := by decide +kernel
theorem dL_hands_199 : decode cL_hands 199 = .ok (.iconst 0, 1) := by decide +kernel
theorem dL_hands_200 : decode cL_hands 200 = .ok (.istore 9, 2) := by decide +kernel
theorem dL_hands_202 : decode cL_hands 202 = .ok (.iload 4, 2) := by decide +kernel
theorem dL_hands_204 : decode cL_hands 204 = .ok (.ifCond .le 464, 3) := by decide +kernel
theorem dL_hands_207 : decode cL_hands 207 = .ok (.iload 9, 2) := by decide +kernel
theorem dL_hands_209 : decode cL_hands 209 = .ok (.ifCond .eq 459, 3) := by decide +kernel
theorem dL_hands_212 : decode cL_hands 212 = .ok (.aload_n 0, 1) := by decide +kernel
theorem dL_hands_213 : decode cL_hands 213 = .ok (.iload 6, 2) := by decide +kernel
theorem dL_hands_215 : decode cL_hands 215 = .ok (.iload 7, 2) := by decide +kernel
theorem dL_hands_217 : decode cL_hands 217 = .ok (.iconst 0, 1) := by decide +kernel
theorem dL_hands_218 : decode cL_hands 218 = .ok (.invokestatic 176, 3) := by decide +kernel
theorem dL_hands_221 : decode cL_hands 221 = .ok (.istore 15, 2) := by decide +kernel
theorem dL_hands_223 : decode cL_hands 223 = .ok (.aload_n 0, 1) := by decide +kernel
theorem dL_hands_224 : decode cL_hands 224 = .ok (.iload 14, 2) := by decide +kernel
theorem dL_hands_226 : decode cL_hands 226 = .ok (.iload 7, 2) := by decide +kernel
theorem dL_hands_228 : decode cL_hands 228 = .ok (.iconst 4, 1) := by decide +kernel
theorem dL_hands_229 : decode cL_hands 229 = .ok (.invokestatic 176, 3) := by decide +kernel
theorem dL_hands_232 : decode cL_hands 232 = .ok (.istore 16, 2) := by decide +kernel
theorem dL_hands_234 : decode cL_hands 234 = .ok (.iload 10, 2) := by decide +kernel
theorem dL_hands_236 : decode cL_hands 236 = .ok (.ifCond .lt 128, 3) := by decide +kernel
theorem dL_hands_239 : decode cL_hands 239 = .ok (.iload 11, 2) := by decide +kernel
theorem dL_hands_241 : decode cL_hands 241 = .ok (.ifCond .lt 123, 3) := by decide +kernel
theorem dL_hands_244 : decode cL_hands 244 = .ok (.iload 12, 2) := by decide +kernel
theorem dL_hands_246 : decode cL_hands 246 = .ok (.ifCond .lt 118, 3) := by decide +kernel
theorem dL_hands_249 : decode cL_hands 249 = .ok (.iload 10, 2) := by decide +kernel
theorem dL_hands_251 : decode cL_hands 251 = .ok (.sipush 9999, 3) := by decide +kernel
theorem dL_hands_254 : decode cL_hands 254 = .ok (.if_icmp .gt 110, 3) := by decide +kernel
theorem dL_hands_257 : decode cL_hands 257 = .ok (.iload 11, 2) := by decide +kernel
theorem dL_hands_259 : decode cL_hands 259 = .ok (.sipush 9999, 3) := by decide +kernel
theorem dL_hands_262 : decode cL_hands 262 = .ok (.if_icmp .gt 102, 3) := by decide +kernel
theorem dL_hands_265 : decode cL_hands 265 = .ok (.iload 12, 2) := by decide +kernel
theorem dL_hands_267 : decode cL_hands 267 = .ok (.sipush 9999, 3) := by decide +kernel
theorem dL_hands_270 : decode cL_hands 270 = .ok (.if_icmp .gt 94, 3) := by decide +kernel
theorem dL_hands_273 : decode cL_hands 273 = .ok (.iload 6, 2) := by decide +kernel
theorem dL_hands_275 : decode cL_hands 275 = .ok (.iconst 1, 1) := by decide +kernel
theorem dL_hands_276 : decode cL_hands 276 = .ok (.if_icmp .gt 8, 3) := by decide +kernel
theorem dL_hands_279 : decode cL_hands 279 = .ok (.iload 12, 2) := by decide +kernel
theorem dL_hands_281 : decode cL_hands 281 = .ok (.ifCond .ne 83, 3) := by decide +kernel
theorem dL_hands_284 : decode cL_hands 284 = .ok (.iload 6, 2) := by decide +kernel
theorem dL_hands_286 : decode cL_hands 286 = .ok (.ifCond .gt 8, 3) := by decide +kernel
theorem dL_hands_289 : decode cL_hands 289 = .ok (.iload 11, 2) := by decide +kernel
theorem dL_hands_291 : decode cL_hands 291 = .ok (.ifCond .ne 73, 3) := by decide +kernel
theorem dL_hands_294 : decode cL_hands 294 = .ok (.iload 16, 2) := by decide +kernel
theorem dL_hands_296 : decode cL_hands 296 = .ok (.iload 13, 2) := by decide +kernel
theorem dL_hands_298 : decode cL_hands 298 = .ok (.if_icmp .lt 17, 3) := by decide +kernel
theorem dL_hands_301 : decode cL_hands 301 = .ok (.iload 16, 2) := by decide +kernel
theorem dL_hands_303 : decode cL_hands 303 = .ok (.iload 13, 2) := by decide +kernel
theorem dL_hands_305 : decode cL_hands 305 = .ok (.if_icmp .ne 59, 3) := by decide +kernel
theorem dL_hands_308 : decode cL_hands 308 = .ok (.iload 14, 2) := by decide +kernel
theorem dL_hands_310 : decode cL_hands 310 = .ok (.iload 6, 2) := by decide +kernel
theorem dL_hands_312 : decode cL_hands 312 = .ok (.if_icmp .gt 52, 3) := by decide +kernel
theorem dL_hands_315 : decode cL_hands 315 = .ok (.aload_n 0, 1) := by decide +kernel
theorem dL_hands_316 : decode cL_hands 316 = .ok (.iconst 3, 1) := by decide +kernel
theorem dL_hands_317 : decode cL_hands 317 = .ok (.iconst 0, 1) := by decide +kernel
theorem dL_hands_318 : decode cL_hands 318 = .ok (.invokestatic 167, 3) := by decide +kernel
theorem dL_hands_321 : decode cL_hands 321 = .ok (.aload_n 0, 1) := by decide +kernel
theorem dL_hands_322 : decode cL_hands 322 = .ok (.iconst 1, 1) := by decide +kernel
theorem dL_hands_323 : decode cL_hands 323 = .ok (.iconst 0, 1) := by decide +kernel
theorem dL_hands_324 : decode cL_hands 324 = .ok (.invokestatic 167, 3) := by decide +kernel
theorem dL_hands_327 : decode cL_hands 327 = .ok (.if_icmp .gt 37, 3) := by decide +kernel
theorem dL_hands_330 : decode cL_hands 330 = .ok (.aload_n 0, 1) := by decide +kernel
theorem dL_hands_331 : decode cL_hands 331 = .ok (.iconst 1, 1) := by decide +kernel
theorem dL_hands_332 : decode cL_hands 332 = .ok (.iconst 0, 1) := by decide +kernel
theorem dL_hands_333 : decode cL_hands 333 = .ok (.invokestatic 167, 3) := by decide +kernel
theorem dL_hands_336 : decode cL_hands 336 = .ok (.aload_n 0, 1) := by decide +kernel
theorem dL_hands_337 : decode cL_hands 337 = .ok (.iconst 0, 1) := by decide +kernel
theorem dL_hands_338 : decode cL_hands 338 = .ok (.iconst 0, 1) := by decide +kernel
theorem dL_hands_339 : decode cL_hands 339 = .ok (.invokestatic 167, 3) := by decide +kernel
theorem dL_hands_342 : decode cL_hands 342 = .ok (.if_icmp .gt 22, 3) := by decide +kernel
theorem dL_hands_345 : decode cL_hands 345 = .ok (.aload_n 0, 1) := by decide +kernel
theorem dL_hands_346 : decode cL_hands 346 = .ok (.iconst 0, 1) := by decide +kernel
theorem dL_hands_347 : decode cL_hands 347 = .ok (.iconst 0, 1) := by decide +kernel
theorem dL_hands_348 : decode cL_hands 348 = .ok (.invokestatic 167, 3) := by decide +kernel
theorem dL_hands_351 : decode cL_hands 351 = .ok (.aload_n 0, 1) := by decide +kernel
theorem dL_hands_352 : decode cL_hands 352 = .ok (.iconst 2, 1) := by decide +kernel
theorem dL_hands_353 : decode cL_hands 353 = .ok (.iconst 0, 1) := by decide +kernel
theorem dL_hands_354 : decode cL_hands 354 = .ok (.invokestatic 167, 3) := by decide +kernel
theorem dL_hands_357 : decode cL_hands 357 = .ok (.if_icmp .gt 7, 3) := by decide +kernel
theorem dL_hands_360 : decode cL_hands 360 = .ok (.iconst 1, 1) := by decide +kernel
theorem dL_hands_361 : decode cL_hands 361 = .ok (.goto 4, 3) := by decide +kernel
theorem dL_hands_364 : decode cL_hands 364 = .ok (.iconst 0, 1) := by decide +kernel
theorem dL_hands_365 : decode cL_hands 365 = .ok (.istore 9, 2) := by decide +kernel
theorem dL_hands_367 : decode cL_hands 367 = .ok (.aload_n 0, 1) := by decide +kernel
theorem dL_hands_368 : decode cL_hands 368 = .ok (.bipush 8, 2) := by decide +kernel
theorem dL_hands_370 : decode cL_hands 370 = .ok (.invokestatic 127, 3) := by decide +kernel
theorem dL_hands_373 : decode cL_hands 373 = .ok (.istore 17, 2) := by decide +kernel
theorem dL_hands_375 : decode cL_hands 375 = .ok (.aload_n 0, 1) := by decide +kernel
theorem dL_hands_376 : decode cL_hands 376 = .ok (.bipush 9, 2) := by decide +kernel
theorem dL_hands_378 : decode cL_hands 378 = .ok (.invokestatic 127, 3) := by decide +kernel
theorem dL_hands_381 : decode cL_hands 381 = .ok (.istore 18, 2) := by decide +kernel
theorem dL_hands_383 : decode cL_hands 383 = .ok (.aload_n 0, 1) := by decide +kernel
theorem dL_hands_384 : decode cL_hands 384 = .ok (.bipush 10, 2) := by decide +kernel
theorem dL_hands_386 : decode cL_hands 386 = .ok (.invokestatic 127, 3) := by decide +kernel
theorem dL_hands_389 : decode cL_hands 389 = .ok (.istore 19, 2) := by decide +kernel
theorem dL_hands_391 : decode cL_hands 391 = .ok (.iload 5, 2) := by decide +kernel
theorem dL_hands_393 : decode cL_hands 393 = .ok (.bipush 8, 2) := by decide +kernel
theorem dL_hands_395 : decode cL_hands 395 = .ok (.if_icmp .ge 273, 3) := by decide +kernel
theorem dL_hands_398 : decode cL_hands 398 = .ok (.iload 9, 2) := by decide +kernel
theorem dL_hands_400 : decode cL_hands 400 = .ok (.ifCond .eq 268, 3) := by decide +kernel
theorem dL_hands_403 : decode cL_hands 403 = .ok (.aload_n 0, 1) := by decide +kernel
theorem dL_hands_404 : decode cL_hands 404 = .ok (.iload 6, 2) := by decide +kernel
theorem dL_hands_406 : decode cL_hands 406 = .ok (.invokestatic 162, 3) := by decide +kernel
theorem dL_hands_409 : decode cL_hands 409 = .ok (.iload 10, 2) := by decide +kernel
theorem dL_hands_411 : decode cL_hands 411 = .ok (.if_icmp .ne 182, 3) := by decide +kernel
theorem dL_hands_414 : decode cL_hands 414 = .ok (.aload_n 0, 1) := by decide +kernel
theorem dL_hands_415 : decode cL_hands 415 = .ok (.bipush 8, 2) := by decide +kernel
theorem dL_hands_417 : decode cL_hands 417 = .ok (.invokestatic 127, 3) := by decide +kernel
theorem dL_hands_420 : decode cL_hands 420 = .ok (.iload 10, 2) := by decide +kernel
theorem dL_hands_422 : decode cL_hands 422 = .ok (.if_icmp .ne 171, 3) := by decide +kernel
theorem dL_hands_425 : decode cL_hands 425 = .ok (.aload_n 0, 1) := by decide +kernel
theorem dL_hands_426 : decode cL_hands 426 = .ok (.bipush 9, 2) := by decide +kernel
theorem dL_hands_428 : decode cL_hands 428 = .ok (.invokestatic 127, 3) := by decide +kernel
theorem dL_hands_431 : decode cL_hands 431 = .ok (.iload 11, 2) := by decide +kernel
theorem dL_hands_433 : decode cL_hands 433 = .ok (.if_icmp .ne 160, 3) := by decide +kernel
theorem dL_hands_436 : decode cL_hands 436 = .ok (.aload_n 0, 1) := by decide +kernel
theorem dL_hands_437 : decode cL_hands 437 = .ok (.bipush 10, 2) := by decide +kernel
theorem dL_hands_439 : decode cL_hands 439 = .ok (.invokestatic 127, 3) := by decide +kernel
theorem dL_hands_442 : decode cL_hands 442 = .ok (.iload 12, 2) := by decide +kernel
theorem dL_hands_444 : decode cL_hands 444 = .ok (.if_icmp .ne 149, 3) := by decide +kernel
theorem dL_hands_447 : decode cL_hands 447 = .ok (.aload_n 0, 1) := by decide +kernel
theorem dL_hands_448 : decode cL_hands 448 = .ok (.bipush 11, 2) := by decide +kernel
theorem dL_hands_450 : decode cL_hands 450 = .ok (.invokestatic 127, 3) := by decide +kernel
theorem dL_hands_453 : decode cL_hands 453 = .ok (.iconst 2, 1) := by decide +kernel
theorem dL_hands_454 : decode cL_hands 454 = .ok (.if_icmp .ne 139, 3) := by decide +kernel
theorem dL_hands_457 : decode cL_hands 457 = .ok (.aload_n 0, 1) := by decide +kernel
theorem dL_hands_458 : decode cL_hands 458 = .ok (.bipush 18, 2) := by decide +kernel
theorem dL_hands_460 : decode cL_hands 460 = .ok (.invokestatic 127, 3) := by decide +kernel
theorem dL_hands_463 : decode cL_hands 463 = .ok (.iload 5, 2) := by decide +kernel
theorem dL_hands_465 : decode cL_hands 465 = .ok (.iconst 1, 1) := by decide +kernel
theorem dL_hands_466 : decode cL_hands 466 = .ok (.iadd, 1) := by decide +kernel
theorem dL_hands_467 : decode cL_hands 467 = .ok (.if_icmp .ne 126, 3) := by decide +kernel
theorem dL_hands_470 : decode cL_hands 470 = .ok (.aload_n 0, 1) := by decide +kernel
theorem dL_hands_471 : decode cL_hands 471 = .ok (.invokestatic 202, 3) := by decide +kernel
theorem dL_hands_474 : decode cL_hands 474 = .ok (.ifCond .eq 119, 3) := by decide +kernel
theorem dL_hands_477 : decode cL_hands 477 = .ok (.aload_n 0, 1) := by decide +kernel
theorem dL_hands_478 : decode cL_hands 478 = .ok (.iload 7, 2) := by decide +kernel
theorem dL_hands_480 : decode cL_hands 480 = .ok (.iconst 4, 1) := by decide +kernel
theorem dL_hands_481 : decode cL_hands 481 = .ok (.invokestatic 173, 3) := by decide +kernel
theorem dL_hands_484 : decode cL_hands 484 = .ok (.iload 13, 2) := by decide +kernel
theorem dL_hands_486 : decode cL_hands 486 = .ok (.if_icmp .ne 107, 3) := by decide +kernel
theorem dL_hands_489 : decode cL_hands 489 = .ok (.aload_n 0, 1) := by decide +kernel
theorem dL_hands_490 : decode cL_hands 490 = .ok (.iload 7, 2) := by decide +kernel
theorem dL_hands_492 : decode cL_hands 492 = .ok (.invokestatic 150, 3) := by decide +kernel
theorem dL_hands_495 : decode cL_hands 495 = .ok (.iload 15, 2) := by decide +kernel
theorem dL_hands_497 : decode cL_hands 497 = .ok (.if_icmp .ne 96, 3) := by decide +kernel
theorem dL_hands_500 : decode cL_hands 500 = .ok (.aload_n 0, 1) := by decide +kernel
theorem dL_hands_501 : decode cL_hands 501 = .ok (.invokestatic 164, 3) := by decide +kernel
theorem dL_hands_504 : decode cL_hands 504 = .ok (.iload 5, 2) := by decide +kernel
theorem dL_hands_506 : decode cL_hands 506 = .ok (.if_icmp .ne 87, 3) := by decide +kernel
theorem dL_hands_509 : decode cL_hands 509 = .ok (.aload_n 0, 1) := by decide +kernel
theorem dL_hands_510 : decode cL_hands 510 = .ok (.bipush 8, 2) := by decide +kernel
theorem dL_hands_512 : decode cL_hands 512 = .ok (.invokestatic 127, 3) := by decide +kernel
theorem dL_hands_515 : decode cL_hands 515 = .ok (.iload 17, 2) := by decide +kernel
theorem dL_hands_517 : decode cL_hands 517 = .ok (.if_icmp .ne 76, 3) := by decide +kernel
theorem dL_hands_520 : decode cL_hands 520 = .ok (.aload_n 0, 1) := by decide +kernel
theorem dL_hands_521 : decode cL_hands 521 = .ok (.bipush 9, 2) := by decide +kernel
theorem dL_hands_523 : decode cL_hands 523 = .ok (.invokestatic 127, 3) := by decide +kernel
theorem dL_hands_526 : decode cL_hands 526 = .ok (.iload 18, 2) := by decide +kernel
theorem dL_hands_528 : decode cL_hands 528 = .ok (.if_icmp .ne 65, 3) := by decide +kernel
theorem dL_hands_531 : decode cL_hands 531 = .ok (.aload_n 0, 1) := by decide +kernel
theorem dL_hands_532 : decode cL_hands 532 = .ok (.bipush 10, 2) := by decide +kernel
theorem dL_hands_534 : decode cL_hands 534 = .ok (.invokestatic 127, 3) := by decide +kernel
theorem dL_hands_537 : decode cL_hands 537 = .ok (.iload 19, 2) := by decide +kernel
theorem dL_hands_539 : decode cL_hands 539 = .ok (.if_icmp .ne 54, 3) := by decide +kernel
theorem dL_hands_542 : decode cL_hands 542 = .ok (.aload_n 0, 1) := by decide +kernel
theorem dL_hands_543 : decode cL_hands 543 = .ok (.bipush 11, 2) := by decide +kernel
theorem dL_hands_545 : decode cL_hands 545 = .ok (.invokestatic 127, 3) := by decide +kernel
theorem dL_hands_548 : decode cL_hands 548 = .ok (.iload 8, 2) := by decide +kernel
theorem dL_hands_550 : decode cL_hands 550 = .ok (.if_icmp .ne 43, 3) := by decide +kernel
theorem dL_hands_553 : decode cL_hands 553 = .ok (.aload_n 0, 1) := by decide +kernel
theorem dL_hands_554 : decode cL_hands 554 = .ok (.bipush 14, 2) := by decide +kernel
theorem dL_hands_556 : decode cL_hands 556 = .ok (.invokestatic 127, 3) := by decide +kernel
theorem dL_hands_559 : decode cL_hands 559 = .ok (.iload 8, 2) := by decide +kernel
theorem dL_hands_561 : decode cL_hands 561 = .ok (.iconst 1, 1) := by decide +kernel
theorem dL_hands_562 : decode cL_hands 562 = .ok (.if_icmp .ne 7, 3) := by decide +kernel
