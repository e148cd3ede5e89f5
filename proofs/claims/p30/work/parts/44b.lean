theorem dL_told_430 : decode cL_told 430 = .ok (.irem, 1) := by decide +kernel
theorem dL_told_431 : decode cL_told 431 = .ok (.iadd, 1) := by decide +kernel
theorem dL_told_432 : decode cL_told 432 = .ok (.invokestatic 101, 3) := by decide +kernel
theorem dL_told_435 : decode cL_told 435 = .ok (.ifCond .eq 144, 3) := by decide +kernel
theorem dL_told_438 : decode cL_told 438 = .ok (.aload_n 0, 1) := by decide +kernel
theorem dL_told_439 : decode cL_told 439 = .ok (.aload_n 1, 1) := by decide +kernel
theorem dL_told_440 : decode cL_told 440 = .ok (.bipush 72, 2) := by decide +kernel
theorem dL_told_442 : decode cL_told 442 = .ok (.invokestatic 101, 3) := by decide +kernel
theorem dL_told_445 : decode cL_told 445 = .ok (.ifCond .eq 134, 3) := by decide +kernel
theorem dL_told_448 : decode cL_told 448 = .ok (.aload_n 0, 1) := by decide +kernel
theorem dL_told_449 : decode cL_told 449 = .ok (.aload_n 1, 1) := by decide +kernel
theorem dL_told_450 : decode cL_told 450 = .ok (.iload 7, 2) := by decide +kernel
theorem dL_told_452 : decode cL_told 452 = .ok (.invokestatic 115, 3) := by decide +kernel
theorem dL_told_455 : decode cL_told 455 = .ok (.ifCond .eq 124, 3) := by decide +kernel
theorem dL_told_458 : decode cL_told 458 = .ok (.aload_n 0, 1) := by decide +kernel
theorem dL_told_459 : decode cL_told 459 = .ok (.aload_n 1, 1) := by decide +kernel
theorem dL_told_460 : decode cL_told 460 = .ok (.bipush 65, 2) := by decide +kernel
theorem dL_told_462 : decode cL_told 462 = .ok (.invokestatic 101, 3) := by decide +kernel
theorem dL_told_465 : decode cL_told 465 = .ok (.ifCond .eq 114, 3) := by decide +kernel
theorem dL_told_468 : decode cL_told 468 = .ok (.aload_n 0, 1) := by decide +kernel
theorem dL_told_469 : decode cL_told 469 = .ok (.aload_n 1, 1) := by decide +kernel
theorem dL_told_470 : decode cL_told 470 = .ok (.iload 8, 2) := by decide +kernel
theorem dL_told_472 : decode cL_told 472 = .ok (.ifCond .ge 8, 3) := by decide +kernel
theorem dL_told_475 : decode cL_told 475 = .ok (.bipush 45, 2) := by decide +kernel
theorem dL_told_477 : decode cL_told 477 = .ok (.goto 5, 3) := by decide +kernel
theorem dL_told_480 : decode cL_told 480 = .ok (.bipush 43, 2) := by decide +kernel
theorem dL_told_482 : decode cL_told 482 = .ok (.invokestatic 101, 3) := by decide +kernel
theorem dL_told_485 : decode cL_told 485 = .ok (.ifCond .eq 94, 3) := by decide +kernel
theorem dL_told_488 : decode cL_told 488 = .ok (.aload_n 0, 1) := by decide +kernel
theorem dL_told_489 : decode cL_told 489 = .ok (.invokevirtual 112, 3) := by decide +kernel
theorem dL_told_492 : decode cL_told 492 = .ok (.bipush 13, 2) := by decide +kernel
theorem dL_told_494 : decode cL_told 494 = .ok (.if_icmp .ne 85, 3) := by decide +kernel
theorem dL_told_497 : decode cL_told 497 = .ok (.aload_n 0, 1) := by decide +kernel
theorem dL_told_498 : decode cL_told 498 = .ok (.aload_n 1, 1) := by decide +kernel
theorem dL_told_499 : decode cL_told 499 = .ok (.iload 8, 2) := by decide +kernel
theorem dL_told_501 : decode cL_told 501 = .ok (.invokestatic 120, 3) := by decide +kernel
theorem dL_told_504 : decode cL_told 504 = .ok (.invokestatic 115, 3) := by decide +kernel
theorem dL_told_507 : decode cL_told 507 = .ok (.ifCond .eq 72, 3) := by decide +kernel
theorem dL_told_510 : decode cL_told 510 = .ok (.aload_n 0, 1) := by decide +kernel
theorem dL_told_511 : decode cL_told 511 = .ok (.aload_n 1, 1) := by decide +kernel
theorem dL_told_512 : decode cL_told 512 = .ok (.bipush 83, 2) := by decide +kernel
theorem dL_told_514 : decode cL_told 514 = .ok (.invokestatic 101, 3) := by decide +kernel
theorem dL_told_517 : decode cL_told 517 = .ok (.ifCond .eq 62, 3) := by decide +kernel
theorem dL_told_520 : decode cL_told 520 = .ok (.aload_n 0, 1) := by decide +kernel
theorem dL_told_521 : decode cL_told 521 = .ok (.aload_n 1, 1) := by decide +kernel
theorem dL_told_522 : decode cL_told 522 = .ok (.bipush 48, 2) := by decide +kernel
theorem dL_told_524 : decode cL_told 524 = .ok (.iload 9, 2) := by decide +kernel
theorem dL_told_526 : decode cL_told 526 = .ok (.bipush 100, 2) := by decide +kernel
theorem dL_told_528 : decode cL_told 528 = .ok (.idiv, 1) := by decide +kernel
theorem dL_told_529 : decode cL_told 529 = .ok (.iadd, 1) := by decide +kernel
theorem dL_told_530 : decode cL_told 530 = .ok (.invokestatic 101, 3) := by decide +kernel
theorem dL_told_533 : decode cL_told 533 = .ok (.ifCond .eq 46, 3) := by decide +kernel
theorem dL_told_536 : decode cL_told 536 = .ok (.aload_n 0, 1) := by decide +kernel
theorem dL_told_537 : decode cL_told 537 = .ok (.aload_n 1, 1) := by decide +kernel
theorem dL_told_538 : decode cL_told 538 = .ok (.iload 9, 2) := by decide +kernel
theorem dL_told_540 : decode cL_told 540 = .ok (.bipush 100, 2) := by decide +kernel
theorem dL_told_542 : decode cL_told 542 = .ok (.irem, 1) := by decide +kernel
theorem dL_told_543 : decode cL_told 543 = .ok (.invokestatic 115, 3) := by decide +kernel
theorem dL_told_546 : decode cL_told 546 = .ok (.ifCond .eq 33, 3) := by decide +kernel
theorem dL_told_549 : decode cL_told 549 = .ok (.aload_n 0, 1) := by decide +kernel
theorem dL_told_550 : decode cL_told 550 = .ok (.aload_n 1, 1) := by decide +kernel
theorem dL_told_551 : decode cL_told 551 = .ok (.bipush 84, 2) := by decide +kernel
theorem dL_told_553 : decode cL_told 553 = .ok (.invokestatic 101, 3) := by decide +kernel
theorem dL_told_556 : decode cL_told 556 = .ok (.ifCond .eq 23, 3) := by decide +kernel
theorem dL_told_559 : decode cL_told 559 = .ok (.aload_n 0, 1) := by decide +kernel
theorem dL_told_560 : decode cL_told 560 = .ok (.aload_n 1, 1) := by decide +kernel
theorem dL_told_561 : decode cL_told 561 = .ok (.iload 5, 2) := by decide +kernel
theorem dL_told_563 : decode cL_told 563 = .ok (.ldc 118, 2) := by decide +kernel
theorem dL_told_565 : decode cL_told 565 = .ok (.idiv, 1) := by decide +kernel
theorem dL_told_566 : decode cL_told 566 = .ok (.bipush 100, 2) := by decide +kernel
theorem dL_told_568 : decode cL_told 568 = .ok (.irem, 1) := by decide +kernel
theorem dL_told_569 : decode cL_told 569 = .ok (.invokestatic 115, 3) := by decide +kernel
theorem dL_told_572 : decode cL_told 572 = .ok (.ifCond .eq 7, 3) := by decide +kernel
theorem dL_told_575 : decode cL_told 575 = .ok (.iconst 1, 1) := by decide +kernel
theorem dL_told_576 : decode cL_told 576 = .ok (.goto 4, 3) := by decide +kernel
theorem dL_told_579 : decode cL_told 579 = .ok (.iconst 0, 1) := by decide +kernel
theorem dL_told_580 : decode cL_told 580 = .ok (.istore 10, 2) := by decide +kernel
theorem dL_told_582 : decode cL_told 582 = .ok (.iload 10, 2) := by decide +kernel
theorem dL_told_584 : decode cL_told 584 = .ok (.ifCond .eq 156, 3) := by decide +kernel
theorem dL_told_587 : decode cL_told 587 = .ok (.aload_n 0, 1) := by decide +kernel
theorem dL_told_588 : decode cL_told 588 = .ok (.invokevirtual 112, 3) := by decide +kernel
theorem dL_told_591 : decode cL_told 591 = .ok (.ldc 119, 2) := by decide +kernel
theorem dL_told_593 : decode cL_told 593 = .ok (.if_icmp .ne 147, 3) := by decide +kernel
theorem dL_told_596 : decode cL_told 596 = .ok (.aload_n 0, 1) := by decide +kernel
theorem dL_told_597 : decode cL_told 597 = .ok (.invokestatic 123, 3) := by decide +kernel
theorem dL_told_600 : decode cL_told 600 = .ok (.iload 8, 2) := by decide +kernel
theorem dL_told_602 : decode cL_told 602 = .ok (.if_icmp .ne 138, 3) := by decide +kernel
theorem dL_told_605 : decode cL_told 605 = .ok (.aload_n 1, 1) := by decide +kernel
theorem dL_told_606 : decode cL_told 606 = .ok (.invokestatic 123, 3) := by decide +kernel
theorem dL_told_609 : decode cL_told 609 = .ok (.iload 8, 2) := by decide +kernel
theorem dL_told_611 : decode cL_told 611 = .ok (.if_icmp .ne 129, 3) := by decide +kernel
theorem dL_told_614 : decode cL_told 614 = .ok (.aload_n 0, 1) := by decide +kernel
theorem dL_told_615 : decode cL_told 615 = .ok (.iconst 0, 1) := by decide +kernel
theorem dL_told_616 : decode cL_told 616 = .ok (.invokestatic 127, 3) := by decide +kernel
theorem dL_told_619 : decode cL_told 619 = .ok (.iload 6, 2) := by decide +kernel
theorem dL_told_621 : decode cL_told 621 = .ok (.if_icmp .ne 119, 3) := by decide +kernel
theorem dL_told_624 : decode cL_told 624 = .ok (.aload_n 0, 1) := by decide +kernel
theorem dL_told_625 : decode cL_told 625 = .ok (.iconst 4, 1) := by decide +kernel
theorem dL_told_626 : decode cL_told 626 = .ok (.invokestatic 127, 3) := by decide +kernel
theorem dL_told_629 : decode cL_told 629 = .ok (.iload 7, 2) := by decide +kernel
theorem dL_told_631 : decode cL_told 631 = .ok (.if_icmp .ne 109, 3) := by decide +kernel
theorem dL_told_634 : decode cL_told 634 = .ok (.aload_n 0, 1) := by decide +kernel
theorem dL_told_635 : decode cL_told 635 = .ok (.iconst 5, 1) := by decide +kernel
theorem dL_told_636 : decode cL_told 636 = .ok (.invokestatic 127, 3) := by decide +kernel
theorem dL_told_639 : decode cL_told 639 = .ok (.iload 9, 2) := by decide +kernel
theorem dL_told_641 : decode cL_told 641 = .ok (.if_icmp .ne 99, 3) := by decide +kernel
theorem dL_told_644 : decode cL_told 644 = .ok (.aload_n 0, 1) := by decide +kernel
theorem dL_told_645 : decode cL_told 645 = .ok (.bipush 12, 2) := by decide +kernel
theorem dL_told_647 : decode cL_told 647 = .ok (.invokestatic 127, 3) := by decide +kernel
theorem dL_told_650 : decode cL_told 650 = .ok (.iload 8, 2) := by decide +kernel
theorem dL_told_652 : decode cL_told 652 = .ok (.if_icmp .ne 88, 3) := by decide +kernel
theorem dL_told_655 : decode cL_told 655 = .ok (.aload_n 0, 1) := by decide +kernel
theorem dL_told_656 : decode cL_told 656 = .ok (.bipush 11, 2) := by decide +kernel
theorem dL_told_658 : decode cL_told 658 = .ok (.invokestatic 127, 3) := by decide +kernel
theorem dL_told_661 : decode cL_told 661 = .ok (.ifCond .ne 79, 3) := by decide +kernel
theorem dL_told_664 : decode cL_told 664 = .ok (.aload_n 0, 1) := by decide +kernel
theorem dL_told_665 : decode cL_told 665 = .ok (.bipush 16, 2) := by decide +kernel
theorem dL_told_667 : decode cL_told 667 = .ok (.invokestatic 127, 3) := by decide +kernel
theorem dL_told_670 : decode cL_told 670 = .ok (.ifCond .ne 70, 3) := by decide +kernel
theorem dL_told_673 : decode cL_told 673 = .ok (.aload_n 0, 1) := by decide +kernel
theorem dL_told_674 : decode cL_told 674 = .ok (.invokestatic 130, 3) := by decide +kernel
theorem dL_told_677 : decode cL_told 677 = .ok (.ldc 18, 2) := by decide +kernel
theorem dL_told_679 : decode cL_told 679 = .ok (.if_icmp .ne 61, 3) := by decide +kernel
theorem dL_told_682 : decode cL_told 682 = .ok (.aload_n 1, 1) := by decide +kernel
theorem dL_told_683 : decode cL_told 683 = .ok (.iconst 1, 1) := by decide +kernel
theorem dL_told_684 : decode cL_told 684 = .ok (.invokestatic 133, 3) := by decide +kernel
theorem dL_told_687 : decode cL_told 687 = .ok (.ldc 18, 2) := by decide +kernel
theorem dL_told_689 : decode cL_told 689 = .ok (.if_icmp .ne 51, 3) := by decide +kernel
theorem dL_told_692 : decode cL_told 692 = .ok (.aload_n 0, 1) := by decide +kernel
theorem dL_told_693 : decode cL_told 693 = .ok (.aload_n 1, 1) := by decide +kernel
theorem dL_told_694 : decode cL_told 694 = .ok (.bipush 65, 2) := by decide +kernel
theorem dL_told_696 : decode cL_told 696 = .ok (.invokestatic 101, 3) := by decide +kernel
theorem dL_told_699 : decode cL_told 699 = .ok (.ifCond .eq 41, 3) := by decide +kernel
theorem dL_told_702 : decode cL_told 702 = .ok (.aload_n 0, 1) := by decide +kernel
theorem dL_told_703 : decode cL_told 703 = .ok (.invokevirtual 112, 3) := by decide +kernel
theorem dL_told_706 : decode cL_told 706 = .ok (.bipush 22, 2) := by decide +kernel
theorem dL_told_708 : decode cL_told 708 = .ok (.if_icmp .ne 32, 3) := by decide +kernel
theorem dL_told_711 : decode cL_told 711 = .ok (.aload_n 0, 1) := by decide +kernel
theorem dL_told_712 : decode cL_told 712 = .ok (.invokestatic 123, 3) := by decide +kernel
theorem dL_told_715 : decode cL_told 715 = .ok (.ldc 18, 2) := by decide +kernel
theorem dL_told_717 : decode cL_told 717 = .ok (.if_icmp .ne 23, 3) := by decide +kernel
theorem dL_told_720 : decode cL_told 720 = .ok (.aload_n 0, 1) := by decide +kernel
theorem dL_told_721 : decode cL_told 721 = .ok (.iconst 1, 1) := by decide +kernel
theorem dL_told_722 : decode cL_told 722 = .ok (.invokestatic 136, 3) := by decide +kernel
theorem dL_told_725 : decode cL_told 725 = .ok (.ifCond .ne 15, 3) := by decide +kernel
theorem dL_told_728 : decode cL_told 728 = .ok (.aload_n 1, 1) := by decide +kernel
theorem dL_told_729 : decode cL_told 729 = .ok (.iconst 1, 1) := by decide +kernel
theorem dL_told_730 : decode cL_told 730 = .ok (.invokestatic 136, 3) := by decide +kernel
theorem dL_told_733 : decode cL_told 733 = .ok (.ifCond .ne 7, 3) := by decide +kernel
theorem dL_told_736 : decode cL_told 736 = .ok (.iconst 1, 1) := by decide +kernel
theorem dL_told_737 : decode cL_told 737 = .ok (.goto 4, 3) := by decide +kernel
theorem dL_told_740 : decode cL_told 740 = .ok (.iconst 0, 1) := by decide +kernel
theorem dL_told_741 : decode cL_told 741 = .ok (.ireturn, 1) := by decide +kernel
theorem dL_alike_0 : decode cL_alike 0 = .ok (.iconst 1, 1) := by decide +kernel
theorem dL_alike_1 : decode cL_alike 1 = .ok (.istore_n 2, 1) := by decide +kernel
theorem dL_alike_2 : decode cL_alike 2 = .ok (.iconst 0, 1) := by decide +kernel
theorem dL_alike_3 : decode cL_alike 3 = .ok (.istore_n 3, 1) := by decide +kernel
theorem dL_alike_4 : decode cL_alike 4 = .ok (.iload_n 3, 1) := by decide +kernel
theorem dL_alike_5 : decode cL_alike 5 = .ok (.bipush 20, 2) := by decide +kernel
theorem dL_alike_7 : decode cL_alike 7 = .ok (.if_icmp .ge 51, 3) := by decide +kernel
theorem dL_alike_10 : decode cL_alike 10 = .ok (.iload_n 2, 1) := by decide +kernel
theorem dL_alike_11 : decode cL_alike 11 = .ok (.ifCond .eq 39, 3) := by decide +kernel
theorem dL_alike_14 : decode cL_alike 14 = .ok (.aload_n 0, 1) := by decide +kernel
theorem dL_alike_15 : decode cL_alike 15 = .ok (.iload_n 3, 1) := by decide +kernel
theorem dL_alike_16 : decode cL_alike 16 = .ok (.invokestatic 127, 3) := by decide +kernel
theorem dL_alike_19 : decode cL_alike 19 = .ok (.aload_n 1, 1) := by decide +kernel
theorem dL_alike_20 : decode cL_alike 20 = .ok (.iload_n 3, 1) := by decide +kernel
theorem dL_alike_21 : decode cL_alike 21 = .ok (.invokestatic 127, 3) := by decide +kernel
theorem dL_alike_24 : decode cL_alike 24 = .ok (.if_icmp .ne 26, 3) := by decide +kernel
theorem dL_alike_27 : decode cL_alike 27 = .ok (.iload_n 3, 1) := by decide +kernel
theorem dL_alike_28 : decode cL_alike 28 = .ok (.bipush 6, 2) := by decide +kernel
theorem dL_alike_30 : decode cL_alike 30 = .ok (.if_icmp .gt 16, 3) := by decide +kernel
theorem dL_alike_33 : decode cL_alike 33 = .ok (.aload_n 0, 1) := by decide +kernel
theorem dL_alike_34 : decode cL_alike 34 = .ok (.iload_n 3, 1) := by decide +kernel
theorem dL_alike_35 : decode cL_alike 35 = .ok (.invokestatic 139, 3) := by decide +kernel
theorem dL_alike_38 : decode cL_alike 38 = .ok (.aload_n 1, 1) := by decide +kernel
theorem dL_alike_39 : decode cL_alike 39 = .ok (.iload_n 3, 1) := by decide +kernel
theorem dL_alike_40 : decode cL_alike 40 = .ok (.invokestatic 139, 3) := by decide +kernel
theorem dL_alike_43 : decode cL_alike 43 = .ok (.if_icmp .ne 7, 3) := by decide +kernel
theorem dL_alike_46 : decode cL_alike 46 = .ok (.iconst 1, 1) := by decide +kernel
theorem dL_alike_47 : decode cL_alike 47 = .ok (.goto 4, 3) := by decide +kernel
theorem dL_alike_50 : decode cL_alike 50 = .ok (.iconst 0, 1) := by decide +kernel
theorem dL_alike_51 : decode cL_alike 51 = .ok (.istore_n 2, 1) := by decide +kernel
theorem dL_alike_52 : decode cL_alike 52 = .ok (.iinc 3 1, 3) := by decide +kernel
theorem dL_alike_55 : decode cL_alike 55 = .ok (.goto (-51), 3) := by decide +kernel
theorem dL_alike_58 : decode cL_alike 58 = .ok (.iconst 0, 1) := by decide +kernel
theorem dL_alike_59 : decode cL_alike 59 = .ok (.istore_n 3, 1) := by decide +kernel
theorem dL_alike_60 : decode cL_alike 60 = .ok (.iload_n 3, 1) := by decide +kernel
theorem dL_alike_61 : decode cL_alike 61 = .ok (.iconst 5, 1) := by decide +kernel
theorem dL_alike_62 : decode cL_alike 62 = .ok (.aload_n 0, 1) := by decide +kernel
theorem dL_alike_63 : decode cL_alike 63 = .ok (.bipush 16, 2) := by decide +kernel
theorem dL_alike_65 : decode cL_alike 65 = .ok (.invokestatic 127, 3) := by decide +kernel
theorem dL_alike_68 : decode cL_alike 68 = .ok (.imul, 1) := by decide +kernel
theorem dL_alike_69 : decode cL_alike 69 = .ok (.if_icmp .ge 42, 3) := by decide +kernel
theorem dL_alike_72 : decode cL_alike 72 = .ok (.iload_n 2, 1) := by decide +kernel
theorem dL_alike_73 : decode cL_alike 73 = .ok (.ifCond .eq 38, 3) := by decide +kernel
theorem dL_alike_76 : decode cL_alike 76 = .ok (.aload_n 0, 1) := by decide +kernel
theorem dL_alike_77 : decode cL_alike 77 = .ok (.iload_n 3, 1) := by decide +kernel
theorem dL_alike_78 : decode cL_alike 78 = .ok (.iconst 5, 1) := by decide +kernel
theorem dL_alike_79 : decode cL_alike 79 = .ok (.idiv, 1) := by decide +kernel
theorem dL_alike_80 : decode cL_alike 80 = .ok (.iload_n 3, 1) := by decide +kernel
theorem dL_alike_81 : decode cL_alike 81 = .ok (.iconst 5, 1) := by decide +kernel
theorem dL_alike_82 : decode cL_alike 82 = .ok (.irem, 1) := by decide +kernel
theorem dL_alike_83 : decode cL_alike 83 = .ok (.invokestatic 142, 3) := by decide +kernel
theorem dL_alike_86 : decode cL_alike 86 = .ok (.aload_n 1, 1) := by decide +kernel
theorem dL_alike_87 : decode cL_alike 87 = .ok (.iload_n 3, 1) := by decide +kernel
theorem dL_alike_88 : decode cL_alike 88 = .ok (.iconst 5, 1) := by decide +kernel
theorem dL_alike_89 : decode cL_alike 89 = .ok (.idiv, 1) := by decide +kernel
theorem dL_alike_90 : decode cL_alike 90 = .ok (.iload_n 3, 1) := by decide +kernel
theorem dL_alike_91 : decode cL_alike 91 = .ok (.iconst 5, 1) := by decide +kernel
theorem dL_alike_92 : decode cL_alike 92 = .ok (.irem, 1) := by decide +kernel
theorem dL_alike_93 : decode cL_alike 93 = .ok (.invokestatic 142, 3) := by decide +kernel
theorem dL_alike_96 : decode cL_alike 96 = .ok (.if_icmp .ne 7, 3) := by decide +kernel
theorem dL_alike_99 : decode cL_alike 99 = .ok (.iconst 1, 1) := by decide +kernel
theorem dL_alike_100 : decode cL_alike 100 = .ok (.goto 4, 3) := by decide +kernel
theorem dL_alike_103 : decode cL_alike 103 = .ok (.iconst 0, 1) := by decide +kernel
theorem dL_alike_104 : decode cL_alike 104 = .ok (.istore_n 2, 1) := by decide +kernel
theorem dL_alike_105 : decode cL_alike 105 = .ok (.iinc 3 1, 3) := by decide +kernel
theorem dL_alike_108 : decode cL_alike 108 = .ok (.goto (-48), 3) := by decide +kernel
theorem dL_alike_111 : decode cL_alike 111 = .ok (.iload_n 2, 1) := by decide +kernel
theorem dL_alike_112 : decode cL_alike 112 = .ok (.ifCond .eq 33, 3) := by decide +kernel
theorem dL_alike_115 : decode cL_alike 115 = .ok (.aload_n 0, 1) := by decide +kernel
theorem dL_alike_116 : decode cL_alike 116 = .ok (.iconst 1, 1) := by decide +kernel
theorem dL_alike_117 : decode cL_alike 117 = .ok (.invokevirtual 146, 3) := by decide +kernel
theorem dL_alike_120 : decode cL_alike 120 = .ok (.aload_n 1, 1) := by decide +kernel
theorem dL_alike_121 : decode cL_alike 121 = .ok (.iconst 1, 1) := by decide +kernel
theorem dL_alike_122 : decode cL_alike 122 = .ok (.invokevirtual 146, 3) := by decide +kernel
theorem dL_alike_125 : decode cL_alike 125 = .ok (.if_icmp .ne 20, 3) := by decide +kernel
theorem dL_alike_128 : decode cL_alike 128 = .ok (.aload_n 0, 1) := by decide +kernel
theorem dL_alike_129 : decode cL_alike 129 = .ok (.iconst 0, 1) := by decide +kernel
theorem dL_alike_130 : decode cL_alike 130 = .ok (.invokevirtual 146, 3) := by decide +kernel
theorem dL_alike_133 : decode cL_alike 133 = .ok (.aload_n 1, 1) := by decide +kernel
theorem dL_alike_134 : decode cL_alike 134 = .ok (.iconst 0, 1) := by decide +kernel
theorem dL_alike_135 : decode cL_alike 135 = .ok (.invokevirtual 146, 3) := by decide +kernel
theorem dL_alike_138 : decode cL_alike 138 = .ok (.if_icmp .ne 7, 3) := by decide +kernel
theorem dL_alike_141 : decode cL_alike 141 = .ok (.iconst 1, 1) := by decide +kernel
theorem dL_alike_142 : decode cL_alike 142 = .ok (.goto 4, 3) := by decide +kernel
theorem dL_alike_145 : decode cL_alike 145 = .ok (.iconst 0, 1) := by decide +kernel
theorem dL_alike_146 : decode cL_alike 146 = .ok (.ireturn, 1) := by decide +kernel
theorem dL_refuses_0 : decode cL_refuses 0 = .ok (.aload_n 0, 1) := by decide +kernel
theorem dL_refuses_1 : decode cL_refuses 1 = .ok (.bipush 16, 2) := by decide +kernel
theorem dL_refuses_3 : decode cL_refuses 3 = .ok (.invokestatic 127, 3) := by decide +kernel
theorem dL_refuses_6 : decode cL_refuses 6 = .ok (.istore_n 1, 1) := by decide +kernel
theorem dL_refuses_7 : decode cL_refuses 7 = .ok (.aload_n 0, 1) := by decide +kernel
theorem dL_refuses_8 : decode cL_refuses 8 = .ok (.bipush 17, 2) := by decide +kernel
theorem dL_refuses_10 : decode cL_refuses 10 = .ok (.invokestatic 127, 3) := by decide +kernel
theorem dL_refuses_13 : decode cL_refuses 13 = .ok (.ifCond .ne 7, 3) := by decide +kernel
theorem dL_refuses_16 : decode cL_refuses 16 = .ok (.iconst 1, 1) := by decide +kernel
theorem dL_refuses_17 : decode cL_refuses 17 = .ok (.goto 4, 3) := by decide +kernel
theorem dL_refuses_20 : decode cL_refuses 20 = .ok (.iconst 0, 1) := by decide +kernel
theorem dL_refuses_21 : decode cL_refuses 21 = .ok (.istore_n 2, 1) := by decide +kernel
theorem dL_refuses_22 : decode cL_refuses 22 = .ok (.aload_n 0, 1) := by decide +kernel
theorem dL_refuses_23 : decode cL_refuses 23 = .ok (.bipush 18, 2) := by decide +kernel
theorem dL_refuses_25 : decode cL_refuses 25 = .ok (.invokestatic 127, 3) := by decide +kernel
theorem dL_refuses_28 : decode cL_refuses 28 = .ok (.istore_n 3, 1) := by decide +kernel
theorem dL_refuses_29 : decode cL_refuses 29 = .ok (.aload_n 0, 1) := by decide +kernel
theorem dL_refuses_30 : decode cL_refuses 30 = .ok (.bipush 20, 2) := by decide +kernel
theorem dL_refuses_32 : decode cL_refuses 32 = .ok (.invokestatic 127, 3) := by decide +kernel
theorem dL_refuses_35 : decode cL_refuses 35 = .ok (.ldc 15, 2) := by decide +kernel
theorem dL_refuses_37 : decode cL_refuses 37 = .ok (.if_icmp .ne 229, 3) := by decide +kernel
theorem dL_refuses_40 : decode cL_refuses 40 = .ok (.aload_n 0, 1) := by decide +kernel
theorem dL_refuses_41 : decode cL_refuses 41 = .ok (.iload_n 1, 1) := by decide +kernel
theorem dL_refuses_42 : decode cL_refuses 42 = .ok (.iconst 5, 1) := by decide +kernel
theorem dL_refuses_43 : decode cL_refuses 43 = .ok (.invokestatic 142, 3) := by decide +kernel
theorem dL_refuses_46 : decode cL_refuses 46 = .ok (.ldc 32, 2) := by decide +kernel
theorem dL_refuses_48 : decode cL_refuses 48 = .ok (.if_icmp .ne 218, 3) := by decide +kernel
theorem dL_refuses_51 : decode cL_refuses 51 = .ok (.iload_n 1, 1) := by decide +kernel
theorem dL_refuses_52 : decode cL_refuses 52 = .ok (.ifCond .eq 14, 3) := by decide +kernel
theorem dL_refuses_55 : decode cL_refuses 55 = .ok (.aload_n 0, 1) := by decide +kernel
theorem dL_refuses_56 : decode cL_refuses 56 = .ok (.iconst 0, 1) := by decide +kernel
theorem dL_refuses_57 : decode cL_refuses 57 = .ok (.iconst 5, 1) := by decide +kernel
theorem dL_refuses_58 : decode cL_refuses 58 = .ok (.invokestatic 142, 3) := by decide +kernel
theorem dL_refuses_61 : decode cL_refuses 61 = .ok (.ldc 15, 2) := by decide +kernel
theorem dL_refuses_63 : decode cL_refuses 63 = .ok (.if_icmp .ne 203, 3) := by decide +kernel
theorem dL_refuses_66 : decode cL_refuses 66 = .ok (.aload_n 0, 1) := by decide +kernel
theorem dL_refuses_67 : decode cL_refuses 67 = .ok (.bipush 7, 2) := by decide +kernel
theorem dL_refuses_69 : decode cL_refuses 69 = .ok (.invokestatic 139, 3) := by decide +kernel
theorem dL_refuses_72 : decode cL_refuses 72 = .ok (.ldc 15, 2) := by decide +kernel
theorem dL_refuses_74 : decode cL_refuses 74 = .ok (.if_icmp .ne 192, 3) := by decide +kernel
theorem dL_refuses_77 : decode cL_refuses 77 = .ok (.aload_n 0, 1) := by decide +kernel
theorem dL_refuses_78 : decode cL_refuses 78 = .ok (.iconst 0, 1) := by decide +kernel
theorem dL_refuses_79 : decode cL_refuses 79 = .ok (.invokestatic 150, 3) := by decide +kernel
theorem dL_refuses_82 : decode cL_refuses 82 = .ok (.ldc 15, 2) := by decide +kernel
theorem dL_refuses_84 : decode cL_refuses 84 = .ok (.if_icmp .ne 182, 3) := by decide +kernel
theorem dL_refuses_87 : decode cL_refuses 87 = .ok (.aload_n 0, 1) := by decide +kernel
theorem dL_refuses_88 : decode cL_refuses 88 = .ok (.sipush 201, 3) := by decide +kernel
theorem dL_refuses_91 : decode cL_refuses 91 = .ok (.invokestatic 150, 3) := by decide +kernel
theorem dL_refuses_94 : decode cL_refuses 94 = .ok (.ldc 15, 2) := by decide +kernel
theorem dL_refuses_96 : decode cL_refuses 96 = .ok (.if_icmp .ne 170, 3) := by decide +kernel
theorem dL_refuses_99 : decode cL_refuses 99 = .ok (.aload_n 0, 1) := by decide +kernel
theorem dL_refuses_100 : decode cL_refuses 100 = .ok (.iconst 3, 1) := by decide +kernel
theorem dL_refuses_101 : decode cL_refuses 101 = .ok (.invokestatic 136, 3) := by decide +kernel
theorem dL_refuses_104 : decode cL_refuses 104 = .ok (.ldc 15, 2) := by decide +kernel
theorem dL_refuses_106 : decode cL_refuses 106 = .ok (.if_icmp .ne 160, 3) := by decide +kernel
theorem dL_refuses_109 : decode cL_refuses 109 = .ok (.aload_n 0, 1) := by decide +kernel
theorem dL_refuses_110 : decode cL_refuses 110 = .ok (.iconst 4, 1) := by decide +kernel
theorem dL_refuses_111 : decode cL_refuses 111 = .ok (.iconst 1, 1) := by decide +kernel
theorem dL_refuses_112 : decode cL_refuses 112 = .ok (.invokestatic 153, 3) := by decide +kernel
theorem dL_refuses_115 : decode cL_refuses 115 = .ok (.ldc 15, 2) := by decide +kernel
theorem dL_refuses_117 : decode cL_refuses 117 = .ok (.if_icmp .ne 149, 3) := by decide +kernel
theorem dL_refuses_120 : decode cL_refuses 120 = .ok (.aload_n 0, 1) := by decide +kernel
theorem dL_refuses_121 : decode cL_refuses 121 = .ok (.iconst 5, 1) := by decide +kernel
theorem dL_refuses_122 : decode cL_refuses 122 = .ok (.sipush 1000, 3) := by decide +kernel
theorem dL_refuses_125 : decode cL_refuses 125 = .ok (.invokestatic 153, 3) := by decide +kernel
theorem dL_refuses_128 : decode cL_refuses 128 = .ok (.ldc 15, 2) := by decide +kernel
theorem dL_refuses_130 : decode cL_refuses 130 = .ok (.if_icmp .ne 136, 3) := by decide +kernel
theorem dL_refuses_133 : decode cL_refuses 133 = .ok (.aload_n 0, 1) := by decide +kernel
theorem dL_refuses_134 : decode cL_refuses 134 = .ok (.bipush 6, 2) := by decide +kernel
theorem dL_refuses_136 : decode cL_refuses 136 = .ok (.bipush 21, 2) := by decide +kernel
theorem dL_refuses_138 : decode cL_refuses 138 = .ok (.invokestatic 153, 3) := by decide +kernel
theorem dL_refuses_141 : decode cL_refuses 141 = .ok (.ldc 15, 2) := by decide +kernel
theorem dL_refuses_143 : decode cL_refuses 143 = .ok (.if_icmp .ne 123, 3) := by decide +kernel
theorem dL_refuses_146 : decode cL_refuses 146 = .ok (.aload_n 0, 1) := by decide +kernel
theorem dL_refuses_147 : decode cL_refuses 147 = .ok (.bipush 7, 2) := by decide +kernel
theorem dL_refuses_149 : decode cL_refuses 149 = .ok (.bipush 100, 2) := by decide +kernel
theorem dL_refuses_151 : decode cL_refuses 151 = .ok (.invokestatic 153, 3) := by decide +kernel
theorem dL_refuses_154 : decode cL_refuses 154 = .ok (.ldc 15, 2) := by decide +kernel
theorem dL_refuses_156 : decode cL_refuses 156 = .ok (.if_icmp .ne 110, 3) := by decide +kernel
theorem dL_refuses_159 : decode cL_refuses 159 = .ok (.aload_n 0, 1) := by decide +kernel
theorem dL_refuses_160 : decode cL_refuses 160 = .ok (.bipush 8, 2) := by decide +kernel
theorem dL_refuses_162 : decode cL_refuses 162 = .ok (.sipush 10000, 3) := by decide +kernel
theorem dL_refuses_165 : decode cL_refuses 165 = .ok (.invokestatic 153, 3) := by decide +kernel
theorem dL_refuses_168 : decode cL_refuses 168 = .ok (.ldc 15, 2) := by decide +kernel
theorem dL_refuses_170 : decode cL_refuses 170 = .ok (.if_icmp .ne 96, 3) := by decide +kernel
theorem dL_refuses_173 : decode cL_refuses 173 = .ok (.aload_n 0, 1) := by decide +kernel
theorem dL_refuses_174 : decode cL_refuses 174 = .ok (.bipush 11, 2) := by decide +kernel
theorem dL_refuses_176 : decode cL_refuses 176 = .ok (.iconst 0, 1) := by decide +kernel
theorem dL_refuses_177 : decode cL_refuses 177 = .ok (.invokestatic 153, 3) := by decide +kernel
theorem dL_refuses_180 : decode cL_refuses 180 = .ok (.ldc 15, 2) := by decide +kernel
theorem dL_refuses_182 : decode cL_refuses 182 = .ok (.if_icmp .ne 84, 3) := by decide +kernel
theorem dL_refuses_185 : decode cL_refuses 185 = .ok (.aload_n 0, 1) := by decide +kernel
theorem dL_refuses_186 : decode cL_refuses 186 = .ok (.sipush 501, 3) := by decide +kernel
theorem dL_refuses_189 : decode cL_refuses 189 = .ok (.invokestatic 156, 3) := by decide +kernel
theorem dL_refuses_192 : decode cL_refuses 192 = .ok (.ldc 15, 2) := by decide +kernel
theorem dL_refuses_194 : decode cL_refuses 194 = .ok (.if_icmp .ne 72, 3) := by decide +kernel
theorem dL_refuses_197 : decode cL_refuses 197 = .ok (.aload_n 0, 1) := by decide +kernel
theorem dL_refuses_198 : decode cL_refuses 198 = .ok (.sipush (-501), 3) := by decide +kernel
theorem dL_refuses_201 : decode cL_refuses 201 = .ok (.invokestatic 156, 3) := by decide +kernel
theorem dL_refuses_204 : decode cL_refuses 204 = .ok (.ldc 15, 2) := by decide +kernel
theorem dL_refuses_206 : decode cL_refuses 206 = .ok (.if_icmp .ne 60, 3) := by decide +kernel
theorem dL_refuses_209 : decode cL_refuses 209 = .ok (.aload_n 0, 1) := by decide +kernel
theorem dL_refuses_210 : decode cL_refuses 210 = .ok (.iload_n 1, 1) := by decide +kernel
theorem dL_refuses_211 : decode cL_refuses 211 = .ok (.invokestatic 159, 3) := by decide +kernel
theorem dL_refuses_214 : decode cL_refuses 214 = .ok (.ldc 32, 2) := by decide +kernel
theorem dL_refuses_216 : decode cL_refuses 216 = .ok (.if_icmp .ne 50, 3) := by decide +kernel
theorem dL_refuses_219 : decode cL_refuses 219 = .ok (.aload_n 0, 1) := by decide +kernel
theorem dL_refuses_220 : decode cL_refuses 220 = .ok (.iconst 4, 1) := by decide +kernel
theorem dL_refuses_221 : decode cL_refuses 221 = .ok (.invokestatic 162, 3) := by decide +kernel
theorem dL_refuses_224 : decode cL_refuses 224 = .ok (.ldc 32, 2) := by decide +kernel
theorem dL_refuses_226 : decode cL_refuses 226 = .ok (.if_icmp .ne 40, 3) := by decide +kernel
theorem dL_refuses_229 : decode cL_refuses 229 = .ok (.iload_n 2, 1) := by decide +kernel
theorem dL_refuses_230 : decode cL_refuses 230 = .ok (.ifCond .ne 9, 3) := by decide +kernel
theorem dL_refuses_233 : decode cL_refuses 233 = .ok (.iload_n 3, 1) := by decide +kernel
theorem dL_refuses_234 : decode cL_refuses 234 = .ok (.bipush 8, 2) := by decide +kernel
theorem dL_refuses_236 : decode cL_refuses 236 = .ok (.if_icmp .lt 13, 3) := by decide +kernel
theorem dL_refuses_239 : decode cL_refuses 239 = .ok (.aload_n 0, 1) := by decide +kernel
theorem dL_refuses_240 : decode cL_refuses 240 = .ok (.iconst 0, 1) := by decide +kernel
theorem dL_refuses_241 : decode cL_refuses 241 = .ok (.invokestatic 162, 3) := by decide +kernel
theorem dL_refuses_244 : decode cL_refuses 244 = .ok (.ldc 18, 2) := by decide +kernel
theorem dL_refuses_246 : decode cL_refuses 246 = .ok (.if_icmp .ne 20, 3) := by decide +kernel
theorem dL_refuses_249 : decode cL_refuses 249 = .ok (.iload_n 3, 1) := by decide +kernel
theorem dL_refuses_250 : decode cL_refuses 250 = .ok (.ifCond .gt 12, 3) := by decide +kernel
theorem dL_refuses_253 : decode cL_refuses 253 = .ok (.aload_n 0, 1) := by decide +kernel
theorem dL_refuses_254 : decode cL_refuses 254 = .ok (.invokestatic 164, 3) := by decide +kernel
theorem dL_refuses_257 : decode cL_refuses 257 = .ok (.ldc 18, 2) := by decide +kernel
theorem dL_refuses_259 : decode cL_refuses 259 = .ok (.if_icmp .ne 7, 3) := by decide +kernel
theorem dL_refuses_262 : decode cL_refuses 262 = .ok (.iconst 1, 1) := by decide +kernel
theorem dL_refuses_263 : decode cL_refuses 263 = .ok (.goto 4, 3) := by decide +kernel
theorem dL_refuses_266 : decode cL_refuses 266 = .ok (.iconst 0, 1) := by decide +kernel
theorem dL_refuses_267 : decode cL_refuses 267 = .ok (.istore 4, 2) := by decide +kernel
theorem dL_refuses_269 : decode cL_refuses 269 = .ok (.iload 4, 2) := by decide +kernel
theorem dL_refuses_271 : decode cL_refuses 271 = .ok (.ifCond .eq 199, 3) := by decide +kernel
theorem dL_refuses_274 : decode cL_refuses 274 = .ok (.aload_n 0, 1) := by decide +kernel
theorem dL_refuses_275 : decode cL_refuses 275 = .ok (.iconst 4, 1) := by decide +kernel
theorem dL_refuses_276 : decode cL_refuses 276 = .ok (.iconst 3, 1) := by decide +kernel
theorem dL_refuses_277 : decode cL_refuses 277 = .ok (.invokestatic 167, 3) := by decide +kernel
theorem dL_refuses_280 : decode cL_refuses 280 = .ok (.ldc 32, 2) := by decide +kernel
theorem dL_refuses_282 : decode cL_refuses 282 = .ok (.if_icmp .ne 188, 3) := by decide +kernel
theorem dL_refuses_285 : decode cL_refuses 285 = .ok (.aload_n 0, 1) := by decide +kernel
theorem dL_refuses_286 : decode cL_refuses 286 = .ok (.iconst 0, 1) := by decide +kernel
theorem dL_refuses_287 : decode cL_refuses 287 = .ok (.iconst 3, 1) := by decide +kernel
theorem dL_refuses_288 : decode cL_refuses 288 = .ok (.invokestatic 167, 3) := by decide +kernel
theorem dL_refuses_291 : decode cL_refuses 291 = .ok (.ldc 15, 2) := by decide +kernel
theorem dL_refuses_293 : decode cL_refuses 293 = .ok (.if_icmp .ne 177, 3) := by decide +kernel
theorem dL_refuses_296 : decode cL_refuses 296 = .ok (.aload_n 0, 1) := by decide +kernel
theorem dL_refuses_297 : decode cL_refuses 297 = .ok (.iconst 0, 1) := by decide +kernel
theorem dL_refuses_298 : decode cL_refuses 298 = .ok (.invokestatic 170, 3) := by decide +kernel
theorem dL_refuses_301 : decode cL_refuses 301 = .ok (.ldc 15, 2) := by decide +kernel
theorem dL_refuses_303 : decode cL_refuses 303 = .ok (.if_icmp .ne 167, 3) := by decide +kernel
theorem dL_refuses_306 : decode cL_refuses 306 = .ok (.aload_n 0, 1) := by decide +kernel
theorem dL_refuses_307 : decode cL_refuses 307 = .ok (.bipush 21, 2) := by decide +kernel
theorem dL_refuses_309 : decode cL_refuses 309 = .ok (.invokestatic 170, 3) := by decide +kernel
theorem dL_refuses_312 : decode cL_refuses 312 = .ok (.ldc 15, 2) := by decide +kernel
theorem dL_refuses_314 : decode cL_refuses 314 = .ok (.if_icmp .ne 156, 3) := by decide +kernel
theorem dL_refuses_317 : decode cL_refuses 317 = .ok (.aload_n 0, 1) := by decide +kernel
theorem dL_refuses_318 : decode cL_refuses 318 = .ok (.sipush 201, 3) := by decide +kernel
theorem dL_refuses_321 : decode cL_refuses 321 = .ok (.iconst 0, 1) := by decide +kernel
theorem dL_refuses_322 : decode cL_refuses 322 = .ok (.invokestatic 173, 3) := by decide +kernel
theorem dL_refuses_325 : decode cL_refuses 325 = .ok (.ldc 15, 2) := by decide +kernel
theorem dL_refuses_327 : decode cL_refuses 327 = .ok (.if_icmp .ne 143, 3) := by decide +kernel
theorem dL_refuses_330 : decode cL_refuses 330 = .ok (.aload_n 0, 1) := by decide +kernel
theorem dL_refuses_331 : decode cL_refuses 331 = .ok (.iconst 0, 1) := by decide +kernel
theorem dL_refuses_332 : decode cL_refuses 332 = .ok (.iconst 5, 1) := by decide +kernel
theorem dL_refuses_333 : decode cL_refuses 333 = .ok (.invokestatic 173, 3) := by decide +kernel
theorem dL_refuses_336 : decode cL_refuses 336 = .ok (.ldc 15, 2) := by decide +kernel
theorem dL_refuses_338 : decode cL_refuses 338 = .ok (.if_icmp .ne 132, 3) := by decide +kernel
theorem dL_refuses_341 : decode cL_refuses 341 = .ok (.aload_n 0, 1) := by decide +kernel
theorem dL_refuses_342 : decode cL_refuses 342 = .ok (.iconst (-1), 1) := by decide +kernel
theorem dL_refuses_343 : decode cL_refuses 343 = .ok (.iconst 0, 1) := by decide +kernel
theorem dL_refuses_344 : decode cL_refuses 344 = .ok (.iconst 5, 1) := by decide +kernel
theorem dL_refuses_345 : decode cL_refuses 345 = .ok (.invokestatic 176, 3) := by decide +kernel
theorem dL_refuses_348 : decode cL_refuses 348 = .ok (.ldc 32, 2) := by decide +kernel
theorem dL_refuses_350 : decode cL_refuses 350 = .ok (.if_icmp .ne 120, 3) := by decide +kernel
theorem dL_refuses_353 : decode cL_refuses 353 = .ok (.aload_n 0, 1) := by decide +kernel
theorem dL_refuses_354 : decode cL_refuses 354 = .ok (.iconst 0, 1) := by decide +kernel
theorem dL_refuses_355 : decode cL_refuses 355 = .ok (.iconst 0, 1) := by decide +kernel
theorem dL_refuses_356 : decode cL_refuses 356 = .ok (.iconst 0, 1) := by decide +kernel
theorem dL_refuses_357 : decode cL_refuses 357 = .ok (.invokestatic 176, 3) := by decide +kernel
theorem dL_refuses_360 : decode cL_refuses 360 = .ok (.ldc 15, 2) := by decide +kernel
theorem dL_refuses_362 : decode cL_refuses 362 = .ok (.if_icmp .ne 108, 3) := by decide +kernel
theorem dL_refuses_365 : decode cL_refuses 365 = .ok (.aload_n 0, 1) := by decide +kernel
theorem dL_refuses_366 : decode cL_refuses 366 = .ok (.iconst 0, 1) := by decide +kernel
theorem dL_refuses_367 : decode cL_refuses 367 = .ok (.iconst 1, 1) := by decide +kernel
theorem dL_refuses_368 : decode cL_refuses 368 = .ok (.iconst 5, 1) := by decide +kernel
theorem dL_refuses_369 : decode cL_refuses 369 = .ok (.invokestatic 176, 3) := by decide +kernel
theorem dL_refuses_372 : decode cL_refuses 372 = .ok (.ldc 15, 2) := by decide +kernel
theorem dL_refuses_374 : decode cL_refuses 374 = .ok (.if_icmp .ne 96, 3) := by decide +kernel
theorem dL_refuses_377 : decode cL_refuses 377 = .ok (.aload_n 0, 1) := by decide +kernel
theorem dL_refuses_378 : decode cL_refuses 378 = .ok (.iconst 0, 1) := by decide +kernel
theorem dL_refuses_379 : decode cL_refuses 379 = .ok (.invokestatic 180, 3) := by decide +kernel
theorem dL_refuses_382 : decode cL_refuses 382 = .ok (.ldc 15, 2) := by decide +kernel
theorem dL_refuses_384 : decode cL_refuses 384 = .ok (.if_icmp .ne 86, 3) := by decide +kernel
theorem dL_refuses_387 : decode cL_refuses 387 = .ok (.aload_n 0, 1) := by decide +kernel
theorem dL_refuses_388 : decode cL_refuses 388 = .ok (.bipush 100, 2) := by decide +kernel
theorem dL_refuses_390 : decode cL_refuses 390 = .ok (.invokestatic 183, 3) := by decide +kernel
theorem dL_refuses_393 : decode cL_refuses 393 = .ok (.ldc 15, 2) := by decide +kernel
theorem dL_refuses_395 : decode cL_refuses 395 = .ok (.if_icmp .ne 75, 3) := by decide +kernel
theorem dL_refuses_398 : decode cL_refuses 398 = .ok (.aload_n 0, 1) := by decide +kernel
theorem dL_refuses_399 : decode cL_refuses 399 = .ok (.iconst 4, 1) := by decide +kernel
theorem dL_refuses_400 : decode cL_refuses 400 = .ok (.lconst 0, 1) := by decide +kernel
theorem dL_refuses_401 : decode cL_refuses 401 = .ok (.invokestatic 186, 3) := by decide +kernel
theorem dL_refuses_404 : decode cL_refuses 404 = .ok (.ldc 15, 2) := by decide +kernel
theorem dL_refuses_406 : decode cL_refuses 406 = .ok (.if_icmp .ne 64, 3) := by decide +kernel
theorem dL_refuses_409 : decode cL_refuses 409 = .ok (.aload_n 0, 1) := by decide +kernel
theorem dL_refuses_410 : decode cL_refuses 410 = .ok (.iconst 1, 1) := by decide +kernel
theorem dL_refuses_411 : decode cL_refuses 411 = .ok (.ldc2_w 190, 3) := by decide +kernel
theorem dL_refuses_414 : decode cL_refuses 414 = .ok (.invokestatic 186, 3) := by decide +kernel
theorem dL_refuses_417 : decode cL_refuses 417 = .ok (.ldc 15, 2) := by decide +kernel
theorem dL_refuses_419 : decode cL_refuses 419 = .ok (.if_icmp .ne 51, 3) := by decide +kernel
theorem dL_refuses_422 : decode cL_refuses 422 = .ok (.aload_n 0, 1) := by decide +kernel
theorem dL_refuses_423 : decode cL_refuses 423 = .ok (.lconst 1, 1) := by decide +kernel
theorem dL_refuses_424 : decode cL_refuses 424 = .ok (.bipush 61, 2) := by decide +kernel
theorem dL_refuses_426 : decode cL_refuses 426 = .ok (.invokestatic 192, 3) := by decide +kernel
theorem dL_refuses_429 : decode cL_refuses 429 = .ok (.ldc 15, 2) := by decide +kernel
theorem dL_refuses_431 : decode cL_refuses 431 = .ok (.if_icmp .ne 39, 3) := by decide +kernel
theorem dL_refuses_434 : decode cL_refuses 434 = .ok (.aload_n 0, 1) := by decide +kernel
theorem dL_refuses_435 : decode cL_refuses 435 = .ok (.iconst 2, 1) := by decide +kernel
theorem dL_refuses_436 : decode cL_refuses 436 = .ok (.invokestatic 196, 3) := by decide +kernel
