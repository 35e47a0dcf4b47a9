theorem d_law_477 : decode code 477 = .ok (.goto 197, 3) := by decide +kernel
theorem d_law_480 : decode code 480 = .ok (.aload_n 1, 1) := by decide +kernel
theorem d_law_481 : decode code 481 = .ok (.aload_n 0, 1) := by decide +kernel
theorem d_law_482 : decode code 482 = .ok (.iload_n 3, 1) := by decide +kernel
theorem d_law_483 : decode code 483 = .ok (.iconst 1, 1) := by decide +kernel
theorem d_law_484 : decode code 484 = .ok (.iadd, 1) := by decide +kernel
theorem d_law_485 : decode code 485 = .ok (.iaload, 1) := by decide +kernel
theorem d_law_486 : decode code 486 = .ok (.aload_n 0, 1) := by decide +kernel
theorem d_law_487 : decode code 487 = .ok (.iload_n 3, 1) := by decide +kernel
theorem d_law_488 : decode code 488 = .ok (.iconst 2, 1) := by decide +kernel
theorem d_law_489 : decode code 489 = .ok (.iadd, 1) := by decide +kernel
theorem d_law_490 : decode code 490 = .ok (.iaload, 1) := by decide +kernel
theorem d_law_491 : decode code 491 = .ok (.invokevirtual 76, 3) := by decide +kernel
theorem d_law_494 : decode code 494 = .ok (.pop, 1) := by decide +kernel
theorem d_law_495 : decode code 495 = .ok (.aload_n 2, 1) := by decide +kernel
theorem d_law_496 : decode code 496 = .ok (.aload_n 0, 1) := by decide +kernel
theorem d_law_497 : decode code 497 = .ok (.iload_n 3, 1) := by decide +kernel
theorem d_law_498 : decode code 498 = .ok (.iconst 1, 1) := by decide +kernel
theorem d_law_499 : decode code 499 = .ok (.iadd, 1) := by decide +kernel
theorem d_law_500 : decode code 500 = .ok (.iaload, 1) := by decide +kernel
theorem d_law_501 : decode code 501 = .ok (.aload_n 0, 1) := by decide +kernel
theorem d_law_502 : decode code 502 = .ok (.iload_n 3, 1) := by decide +kernel
theorem d_law_503 : decode code 503 = .ok (.iconst 2, 1) := by decide +kernel
theorem d_law_504 : decode code 504 = .ok (.iadd, 1) := by decide +kernel
theorem d_law_505 : decode code 505 = .ok (.iaload, 1) := by decide +kernel
theorem d_law_506 : decode code 506 = .ok (.invokevirtual 79, 3) := by decide +kernel
theorem d_law_509 : decode code 509 = .ok (.pop, 1) := by decide +kernel
theorem d_law_510 : decode code 510 = .ok (.goto 164, 3) := by decide +kernel
theorem d_law_513 : decode code 513 = .ok (.aload_n 1, 1) := by decide +kernel
theorem d_law_514 : decode code 514 = .ok (.aload_n 0, 1) := by decide +kernel
theorem d_law_515 : decode code 515 = .ok (.iload_n 3, 1) := by decide +kernel
theorem d_law_516 : decode code 516 = .ok (.iconst 1, 1) := by decide +kernel
theorem d_law_517 : decode code 517 = .ok (.iadd, 1) := by decide +kernel
theorem d_law_518 : decode code 518 = .ok (.iaload, 1) := by decide +kernel
theorem d_law_519 : decode code 519 = .ok (.invokevirtual 80, 3) := by decide +kernel
theorem d_law_522 : decode code 522 = .ok (.pop, 1) := by decide +kernel
theorem d_law_523 : decode code 523 = .ok (.aload_n 2, 1) := by decide +kernel
theorem d_law_524 : decode code 524 = .ok (.aload_n 0, 1) := by decide +kernel
theorem d_law_525 : decode code 525 = .ok (.iload_n 3, 1) := by decide +kernel
theorem d_law_526 : decode code 526 = .ok (.iconst 1, 1) := by decide +kernel
theorem d_law_527 : decode code 527 = .ok (.iadd, 1) := by decide +kernel
theorem d_law_528 : decode code 528 = .ok (.iaload, 1) := by decide +kernel
theorem d_law_529 : decode code 529 = .ok (.invokevirtual 83, 3) := by decide +kernel
theorem d_law_532 : decode code 532 = .ok (.pop, 1) := by decide +kernel
theorem d_law_533 : decode code 533 = .ok (.goto 141, 3) := by decide +kernel
theorem d_law_536 : decode code 536 = .ok (.aload_n 1, 1) := by decide +kernel
theorem d_law_537 : decode code 537 = .ok (.aload_n 0, 1) := by decide +kernel
theorem d_law_538 : decode code 538 = .ok (.iload_n 3, 1) := by decide +kernel
theorem d_law_539 : decode code 539 = .ok (.iconst 1, 1) := by decide +kernel
theorem d_law_540 : decode code 540 = .ok (.iadd, 1) := by decide +kernel
theorem d_law_541 : decode code 541 = .ok (.iaload, 1) := by decide +kernel
theorem d_law_542 : decode code 542 = .ok (.aload_n 0, 1) := by decide +kernel
theorem d_law_543 : decode code 543 = .ok (.iload_n 3, 1) := by decide +kernel
theorem d_law_544 : decode code 544 = .ok (.iconst 2, 1) := by decide +kernel
theorem d_law_545 : decode code 545 = .ok (.iadd, 1) := by decide +kernel
theorem d_law_546 : decode code 546 = .ok (.iaload, 1) := by decide +kernel
theorem d_law_547 : decode code 547 = .ok (.invokevirtual 84, 3) := by decide +kernel
theorem d_law_550 : decode code 550 = .ok (.pop, 1) := by decide +kernel
theorem d_law_551 : decode code 551 = .ok (.aload_n 2, 1) := by decide +kernel
theorem d_law_552 : decode code 552 = .ok (.aload_n 0, 1) := by decide +kernel
theorem d_law_553 : decode code 553 = .ok (.iload_n 3, 1) := by decide +kernel
theorem d_law_554 : decode code 554 = .ok (.iconst 1, 1) := by decide +kernel
theorem d_law_555 : decode code 555 = .ok (.iadd, 1) := by decide +kernel
theorem d_law_556 : decode code 556 = .ok (.iaload, 1) := by decide +kernel
theorem d_law_557 : decode code 557 = .ok (.aload_n 0, 1) := by decide +kernel
theorem d_law_558 : decode code 558 = .ok (.iload_n 3, 1) := by decide +kernel
theorem d_law_559 : decode code 559 = .ok (.iconst 2, 1) := by decide +kernel
theorem d_law_560 : decode code 560 = .ok (.iadd, 1) := by decide +kernel
theorem d_law_561 : decode code 561 = .ok (.iaload, 1) := by decide +kernel
theorem d_law_562 : decode code 562 = .ok (.invokevirtual 87, 3) := by decide +kernel
theorem d_law_565 : decode code 565 = .ok (.pop, 1) := by decide +kernel
theorem d_law_566 : decode code 566 = .ok (.goto 108, 3) := by decide +kernel
theorem d_law_569 : decode code 569 = .ok (.aload_n 1, 1) := by decide +kernel
theorem d_law_570 : decode code 570 = .ok (.aload_n 0, 1) := by decide +kernel
theorem d_law_571 : decode code 571 = .ok (.iload_n 3, 1) := by decide +kernel
theorem d_law_572 : decode code 572 = .ok (.iconst 1, 1) := by decide +kernel
theorem d_law_573 : decode code 573 = .ok (.iadd, 1) := by decide +kernel
theorem d_law_574 : decode code 574 = .ok (.iaload, 1) := by decide +kernel
theorem d_law_575 : decode code 575 = .ok (.invokevirtual 88, 3) := by decide +kernel
theorem d_law_578 : decode code 578 = .ok (.pop, 1) := by decide +kernel
theorem d_law_579 : decode code 579 = .ok (.aload_n 2, 1) := by decide +kernel
theorem d_law_580 : decode code 580 = .ok (.aload_n 0, 1) := by decide +kernel
theorem d_law_581 : decode code 581 = .ok (.iload_n 3, 1) := by decide +kernel
theorem d_law_582 : decode code 582 = .ok (.iconst 1, 1) := by decide +kernel
theorem d_law_583 : decode code 583 = .ok (.iadd, 1) := by decide +kernel
theorem d_law_584 : decode code 584 = .ok (.iaload, 1) := by decide +kernel
theorem d_law_585 : decode code 585 = .ok (.invokevirtual 92, 3) := by decide +kernel
theorem d_law_588 : decode code 588 = .ok (.pop, 1) := by decide +kernel
theorem d_law_589 : decode code 589 = .ok (.goto 85, 3) := by decide +kernel
theorem d_law_592 : decode code 592 = .ok (.aload_n 1, 1) := by decide +kernel
theorem d_law_593 : decode code 593 = .ok (.aload_n 0, 1) := by decide +kernel
theorem d_law_594 : decode code 594 = .ok (.iload_n 3, 1) := by decide +kernel
theorem d_law_595 : decode code 595 = .ok (.iconst 1, 1) := by decide +kernel
theorem d_law_596 : decode code 596 = .ok (.iadd, 1) := by decide +kernel
theorem d_law_597 : decode code 597 = .ok (.iaload, 1) := by decide +kernel
theorem d_law_598 : decode code 598 = .ok (.invokevirtual 93, 3) := by decide +kernel
theorem d_law_601 : decode code 601 = .ok (.pop, 1) := by decide +kernel
theorem d_law_602 : decode code 602 = .ok (.aload_n 2, 1) := by decide +kernel
theorem d_law_603 : decode code 603 = .ok (.aload_n 0, 1) := by decide +kernel
theorem d_law_604 : decode code 604 = .ok (.iload_n 3, 1) := by decide +kernel
theorem d_law_605 : decode code 605 = .ok (.iconst 1, 1) := by decide +kernel
theorem d_law_606 : decode code 606 = .ok (.iadd, 1) := by decide +kernel
theorem d_law_607 : decode code 607 = .ok (.iaload, 1) := by decide +kernel
theorem d_law_608 : decode code 608 = .ok (.invokevirtual 96, 3) := by decide +kernel
theorem d_law_611 : decode code 611 = .ok (.pop, 1) := by decide +kernel
theorem d_law_612 : decode code 612 = .ok (.goto 62, 3) := by decide +kernel
theorem d_law_615 : decode code 615 = .ok (.aload_n 1, 1) := by decide +kernel
theorem d_law_616 : decode code 616 = .ok (.invokevirtual 97, 3) := by decide +kernel
theorem d_law_619 : decode code 619 = .ok (.pop, 1) := by decide +kernel
theorem d_law_620 : decode code 620 = .ok (.aload_n 2, 1) := by decide +kernel
theorem d_law_621 : decode code 621 = .ok (.invokevirtual 100, 3) := by decide +kernel
theorem d_law_624 : decode code 624 = .ok (.pop, 1) := by decide +kernel
theorem d_law_625 : decode code 625 = .ok (.goto 49, 3) := by decide +kernel
theorem d_law_628 : decode code 628 = .ok (.aload_n 1, 1) := by decide +kernel
theorem d_law_629 : decode code 629 = .ok (.aload_n 0, 1) := by decide +kernel
theorem d_law_630 : decode code 630 = .ok (.iload_n 3, 1) := by decide +kernel
theorem d_law_631 : decode code 631 = .ok (.iconst 1, 1) := by decide +kernel
theorem d_law_632 : decode code 632 = .ok (.iadd, 1) := by decide +kernel
theorem d_law_633 : decode code 633 = .ok (.iaload, 1) := by decide +kernel
theorem d_law_634 : decode code 634 = .ok (.aload_n 0, 1) := by decide +kernel
theorem d_law_635 : decode code 635 = .ok (.iload_n 3, 1) := by decide +kernel
theorem d_law_636 : decode code 636 = .ok (.iconst 2, 1) := by decide +kernel
theorem d_law_637 : decode code 637 = .ok (.iadd, 1) := by decide +kernel
theorem d_law_638 : decode code 638 = .ok (.iaload, 1) := by decide +kernel
theorem d_law_639 : decode code 639 = .ok (.invokevirtual 101, 3) := by decide +kernel
theorem d_law_642 : decode code 642 = .ok (.pop, 1) := by decide +kernel
theorem d_law_643 : decode code 643 = .ok (.aload_n 2, 1) := by decide +kernel
theorem d_law_644 : decode code 644 = .ok (.aload_n 0, 1) := by decide +kernel
theorem d_law_645 : decode code 645 = .ok (.iload_n 3, 1) := by decide +kernel
theorem d_law_646 : decode code 646 = .ok (.iconst 1, 1) := by decide +kernel
theorem d_law_647 : decode code 647 = .ok (.iadd, 1) := by decide +kernel
theorem d_law_648 : decode code 648 = .ok (.iaload, 1) := by decide +kernel
theorem d_law_649 : decode code 649 = .ok (.aload_n 0, 1) := by decide +kernel
theorem d_law_650 : decode code 650 = .ok (.iload_n 3, 1) := by decide +kernel
theorem d_law_651 : decode code 651 = .ok (.iconst 2, 1) := by decide +kernel
theorem d_law_652 : decode code 652 = .ok (.iadd, 1) := by decide +kernel
theorem d_law_653 : decode code 653 = .ok (.iaload, 1) := by decide +kernel
theorem d_law_654 : decode code 654 = .ok (.invokevirtual 104, 3) := by decide +kernel
theorem d_law_657 : decode code 657 = .ok (.pop, 1) := by decide +kernel
theorem d_law_658 : decode code 658 = .ok (.goto 16, 3) := by decide +kernel
theorem d_law_661 : decode code 661 = .ok (.aload_n 1, 1) := by decide +kernel
theorem d_law_662 : decode code 662 = .ok (.invokevirtual 105, 3) := by decide +kernel
theorem d_law_665 : decode code 665 = .ok (.aload_n 2, 1) := by decide +kernel
theorem d_law_666 : decode code 666 = .ok (.invokevirtual 108, 3) := by decide +kernel
theorem d_law_669 : decode code 669 = .ok (.if_icmp .eq 5, 3) := by decide +kernel
theorem d_law_672 : decode code 672 = .ok (.iconst 0, 1) := by decide +kernel
theorem d_law_673 : decode code 673 = .ok (.ireturn, 1) := by decide +kernel
theorem d_law_674 : decode code 674 = .ok (.iinc 3 4, 3) := by decide +kernel
theorem d_law_677 : decode code 677 = .ok (.goto (-649), 3) := by decide +kernel
theorem d_law_680 : decode code 680 = .ok (.iconst 1, 1) := by decide +kernel
theorem d_law_681 : decode code 681 = .ok (.ireturn, 1) := by decide +kernel
theorem d_lend_0 : decode prog_1_method_9_code 0 = .ok (.aload_n 0, 1) := by decide +kernel
theorem d_lend_1 : decode prog_1_method_9_code 1 = .ok (.getfield 40, 3) := by decide +kernel
theorem d_lend_4 : decode prog_1_method_9_code 4 = .ok (.getfield 75, 3) := by decide +kernel
theorem d_lend_7 : decode prog_1_method_9_code 7 = .ok (.iconst 2, 1) := by decide +kernel
theorem d_lend_8 : decode prog_1_method_9_code 8 = .ok (.if_icmp .eq 6, 3) := by decide +kernel
theorem d_lend_11 : decode prog_1_method_9_code 11 = .ok (.bipush (-8), 2) := by decide +kernel
theorem d_lend_13 : decode prog_1_method_9_code 13 = .ok (.ireturn, 1) := by decide +kernel
theorem d_lend_14 : decode prog_1_method_9_code 14 = .ok (.aload_n 0, 1) := by decide +kernel
theorem d_lend_15 : decode prog_1_method_9_code 15 = .ok (.getfield 40, 3) := by decide +kernel
theorem d_lend_18 : decode prog_1_method_9_code 18 = .ok (.invokevirtual 100, 3) := by decide +kernel
theorem d_lend_21 : decode prog_1_method_9_code 21 = .ok (.ifCond .ne 5, 3) := by decide +kernel
theorem d_lend_24 : decode prog_1_method_9_code 24 = .ok (.iconst (-1), 1) := by decide +kernel
theorem d_lend_25 : decode prog_1_method_9_code 25 = .ok (.ireturn, 1) := by decide +kernel
theorem d_lend_26 : decode prog_1_method_9_code 26 = .ok (.aload_n 0, 1) := by decide +kernel
theorem d_lend_27 : decode prog_1_method_9_code 27 = .ok (.getfield 44, 3) := by decide +kernel
theorem d_lend_30 : decode prog_1_method_9_code 30 = .ok (.ifCond .eq 10, 3) := by decide +kernel
theorem d_lend_33 : decode prog_1_method_9_code 33 = .ok (.aload_n 0, 1) := by decide +kernel
theorem d_lend_34 : decode prog_1_method_9_code 34 = .ok (.invokevirtual 104, 3) := by decide +kernel
theorem d_lend_37 : decode prog_1_method_9_code 37 = .ok (.goto 24, 3) := by decide +kernel
theorem d_lend_40 : decode prog_1_method_9_code 40 = .ok (.aload_n 0, 1) := by decide +kernel
theorem d_lend_41 : decode prog_1_method_9_code 41 = .ok (.getfield 21, 3) := by decide +kernel
theorem d_lend_44 : decode prog_1_method_9_code 44 = .ok (.aload_n 0, 1) := by decide +kernel
theorem d_lend_45 : decode prog_1_method_9_code 45 = .ok (.getfield 40, 3) := by decide +kernel
theorem d_lend_48 : decode prog_1_method_9_code 48 = .ok (.getfield 94, 3) := by decide +kernel
theorem d_lend_51 : decode prog_1_method_9_code 51 = .ok (.aload_n 0, 1) := by decide +kernel
theorem d_lend_52 : decode prog_1_method_9_code 52 = .ok (.getfield 40, 3) := by decide +kernel
theorem d_lend_55 : decode prog_1_method_9_code 55 = .ok (.getfield 82, 3) := by decide +kernel
theorem d_lend_58 : decode prog_1_method_9_code 58 = .ok (.invokevirtual 108, 3) := by decide +kernel
theorem d_lend_61 : decode prog_1_method_9_code 61 = .ok (.istore_n 1, 1) := by decide +kernel
theorem d_lend_62 : decode prog_1_method_9_code 62 = .ok (.iload_n 1, 1) := by decide +kernel
theorem d_lend_63 : decode prog_1_method_9_code 63 = .ok (.ifCond .eq 5, 3) := by decide +kernel
theorem d_lend_66 : decode prog_1_method_9_code 66 = .ok (.iload_n 1, 1) := by decide +kernel
theorem d_lend_67 : decode prog_1_method_9_code 67 = .ok (.ireturn, 1) := by decide +kernel
theorem d_lend_68 : decode prog_1_method_9_code 68 = .ok (.aload_n 0, 1) := by decide +kernel
theorem d_lend_69 : decode prog_1_method_9_code 69 = .ok (.getfield 44, 3) := by decide +kernel
theorem d_lend_72 : decode prog_1_method_9_code 72 = .ok (.ifCond .eq 43, 3) := by decide +kernel
theorem d_lend_75 : decode prog_1_method_9_code 75 = .ok (.aload_n 0, 1) := by decide +kernel
theorem d_lend_76 : decode prog_1_method_9_code 76 = .ok (.getfield 30, 3) := by decide +kernel
theorem d_lend_79 : decode prog_1_method_9_code 79 = .ok (.aload_n 0, 1) := by decide +kernel
theorem d_lend_80 : decode prog_1_method_9_code 80 = .ok (.getfield 40, 3) := by decide +kernel
theorem d_lend_83 : decode prog_1_method_9_code 83 = .ok (.getfield 94, 3) := by decide +kernel
theorem d_lend_86 : decode prog_1_method_9_code 86 = .ok (.aload_n 0, 1) := by decide +kernel
theorem d_lend_87 : decode prog_1_method_9_code 87 = .ok (.getfield 40, 3) := by decide +kernel
theorem d_lend_90 : decode prog_1_method_9_code 90 = .ok (.getfield 82, 3) := by decide +kernel
theorem d_lend_93 : decode prog_1_method_9_code 93 = .ok (.invokevirtual 111, 3) := by decide +kernel
theorem d_lend_96 : decode prog_1_method_9_code 96 = .ok (.aload_n 0, 1) := by decide +kernel
theorem d_lend_97 : decode prog_1_method_9_code 97 = .ok (.getfield 21, 3) := by decide +kernel
theorem d_lend_100 : decode prog_1_method_9_code 100 = .ok (.getfield 115, 3) := by decide +kernel
theorem d_lend_103 : decode prog_1_method_9_code 103 = .ok (.aload_n 0, 1) := by decide +kernel
theorem d_lend_104 : decode prog_1_method_9_code 104 = .ok (.getfield 40, 3) := by decide +kernel
theorem d_lend_107 : decode prog_1_method_9_code 107 = .ok (.getfield 94, 3) := by decide +kernel
theorem d_lend_110 : decode prog_1_method_9_code 110 = .ok (.iconst 0, 1) := by decide +kernel
theorem d_lend_111 : decode prog_1_method_9_code 111 = .ok (.bastore, 1) := by decide +kernel
theorem d_lend_112 : decode prog_1_method_9_code 112 = .ok (.goto 24, 3) := by decide +kernel
theorem d_lend_115 : decode prog_1_method_9_code 115 = .ok (.aload_n 0, 1) := by decide +kernel
theorem d_lend_116 : decode prog_1_method_9_code 116 = .ok (.getfield 21, 3) := by decide +kernel
theorem d_lend_119 : decode prog_1_method_9_code 119 = .ok (.aload_n 0, 1) := by decide +kernel
theorem d_lend_120 : decode prog_1_method_9_code 120 = .ok (.getfield 40, 3) := by decide +kernel
theorem d_lend_123 : decode prog_1_method_9_code 123 = .ok (.getfield 94, 3) := by decide +kernel
theorem d_lend_126 : decode prog_1_method_9_code 126 = .ok (.aload_n 0, 1) := by decide +kernel
theorem d_lend_127 : decode prog_1_method_9_code 127 = .ok (.getfield 40, 3) := by decide +kernel
theorem d_lend_130 : decode prog_1_method_9_code 130 = .ok (.getfield 82, 3) := by decide +kernel
theorem d_lend_133 : decode prog_1_method_9_code 133 = .ok (.invokevirtual 118, 3) := by decide +kernel
theorem d_lend_136 : decode prog_1_method_9_code 136 = .ok (.aload_n 0, 1) := by decide +kernel
theorem d_lend_137 : decode prog_1_method_9_code 137 = .ok (.getfield 40, 3) := by decide +kernel
theorem d_lend_140 : decode prog_1_method_9_code 140 = .ok (.invokevirtual 121, 3) := by decide +kernel
theorem d_lend_143 : decode prog_1_method_9_code 143 = .ok (.aload_n 0, 1) := by decide +kernel
theorem d_lend_144 : decode prog_1_method_9_code 144 = .ok (.getfield 40, 3) := by decide +kernel
theorem d_lend_147 : decode prog_1_method_9_code 147 = .ok (.getfield 124, 3) := by decide +kernel
theorem d_lend_150 : decode prog_1_method_9_code 150 = .ok (.ireturn, 1) := by decide +kernel
theorem d_locker_0 : decode prog_1_method_15_code 0 = .ok (.iload_n 1, 1) := by decide +kernel
theorem d_locker_1 : decode prog_1_method_15_code 1 = .ok (.invokestatic 69, 3) := by decide +kernel
theorem d_locker_4 : decode prog_1_method_15_code 4 = .ok (.ifCond .eq 14, 3) := by decide +kernel
theorem d_locker_7 : decode prog_1_method_15_code 7 = .ok (.aload_n 0, 1) := by decide +kernel
theorem d_locker_8 : decode prog_1_method_15_code 8 = .ok (.getfield 21, 3) := by decide +kernel
theorem d_locker_11 : decode prog_1_method_15_code 11 = .ok (.iload_n 1, 1) := by decide +kernel
theorem d_locker_12 : decode prog_1_method_15_code 12 = .ok (.invokevirtual 155, 3) := by decide +kernel
theorem d_locker_15 : decode prog_1_method_15_code 15 = .ok (.ifCond .ne 5, 3) := by decide +kernel
theorem d_locker_18 : decode prog_1_method_15_code 18 = .ok (.iconst (-1), 1) := by decide +kernel
theorem d_locker_19 : decode prog_1_method_15_code 19 = .ok (.ireturn, 1) := by decide +kernel
theorem d_locker_20 : decode prog_1_method_15_code 20 = .ok (.aload_n 0, 1) := by decide +kernel
theorem d_locker_21 : decode prog_1_method_15_code 21 = .ok (.getfield 21, 3) := by decide +kernel
theorem d_locker_24 : decode prog_1_method_15_code 24 = .ok (.invokevirtual 158, 3) := by decide +kernel
theorem d_locker_27 : decode prog_1_method_15_code 27 = .ok (.istore_n 2, 1) := by decide +kernel
theorem d_locker_28 : decode prog_1_method_15_code 28 = .ok (.iload_n 2, 1) := by decide +kernel
theorem d_locker_29 : decode prog_1_method_15_code 29 = .ok (.iconst (-1), 1) := by decide +kernel
theorem d_locker_30 : decode prog_1_method_15_code 30 = .ok (.if_icmp .eq 23, 3) := by decide +kernel
theorem d_locker_33 : decode prog_1_method_15_code 33 = .ok (.aload_n 0, 1) := by decide +kernel
theorem d_locker_34 : decode prog_1_method_15_code 34 = .ok (.getfield 21, 3) := by decide +kernel
theorem d_locker_37 : decode prog_1_method_15_code 37 = .ok (.getfield 161, 3) := by decide +kernel
theorem d_locker_40 : decode prog_1_method_15_code 40 = .ok (.iload_n 2, 1) := by decide +kernel
theorem d_locker_41 : decode prog_1_method_15_code 41 = .ok (.iload_n 1, 1) := by decide +kernel
theorem d_locker_42 : decode prog_1_method_15_code 42 = .ok (.iastore, 1) := by decide +kernel
theorem d_locker_43 : decode prog_1_method_15_code 43 = .ok (.aload_n 0, 1) := by decide +kernel
theorem d_locker_44 : decode prog_1_method_15_code 44 = .ok (.getfield 21, 3) := by decide +kernel
theorem d_locker_47 : decode prog_1_method_15_code 47 = .ok (.getfield 164, 3) := by decide +kernel
theorem d_locker_50 : decode prog_1_method_15_code 50 = .ok (.iload_n 1, 1) := by decide +kernel
theorem d_locker_51 : decode prog_1_method_15_code 51 = .ok (.iload_n 2, 1) := by decide +kernel
theorem d_locker_52 : decode prog_1_method_15_code 52 = .ok (.iastore, 1) := by decide +kernel
theorem d_locker_53 : decode prog_1_method_15_code 53 = .ok (.iload_n 2, 1) := by decide +kernel
theorem d_locker_54 : decode prog_1_method_15_code 54 = .ok (.ireturn, 1) := by decide +kernel
theorem d_mAg_0 : decode prog_6_method_15_code 0 = .ok (.aload_n 0, 1) := by decide +kernel
theorem d_mAg_1 : decode prog_6_method_15_code 1 = .ok (.getfield 26, 3) := by decide +kernel
theorem d_mAg_4 : decode prog_6_method_15_code 4 = .ok (.iload_n 1, 1) := by decide +kernel
theorem d_mAg_5 : decode prog_6_method_15_code 5 = .ok (.iaload, 1) := by decide +kernel
theorem d_mAg_6 : decode prog_6_method_15_code 6 = .ok (.iconst (-1), 1) := by decide +kernel
theorem d_mAg_7 : decode prog_6_method_15_code 7 = .ok (.if_icmp .eq 6, 3) := by decide +kernel
theorem d_mAg_10 : decode prog_6_method_15_code 10 = .ok (.bipush (-2), 2) := by decide +kernel
theorem d_mAg_12 : decode prog_6_method_15_code 12 = .ok (.ireturn, 1) := by decide +kernel
theorem d_mAg_13 : decode prog_6_method_15_code 13 = .ok (.aload_n 0, 1) := by decide +kernel
theorem d_mAg_14 : decode prog_6_method_15_code 14 = .ok (.getfield 29, 3) := by decide +kernel
theorem d_mAg_17 : decode prog_6_method_15_code 17 = .ok (.iload_n 1, 1) := by decide +kernel
theorem d_mAg_18 : decode prog_6_method_15_code 18 = .ok (.iaload, 1) := by decide +kernel
theorem d_mAg_19 : decode prog_6_method_15_code 19 = .ok (.iconst (-1), 1) := by decide +kernel
theorem d_mAg_20 : decode prog_6_method_15_code 20 = .ok (.if_icmp .eq 16, 3) := by decide +kernel
theorem d_mAg_23 : decode prog_6_method_15_code 23 = .ok (.aload_n 0, 1) := by decide +kernel
theorem d_mAg_24 : decode prog_6_method_15_code 24 = .ok (.getfield 29, 3) := by decide +kernel
theorem d_mAg_27 : decode prog_6_method_15_code 27 = .ok (.iload_n 1, 1) := by decide +kernel
theorem d_mAg_28 : decode prog_6_method_15_code 28 = .ok (.iaload, 1) := by decide +kernel
theorem d_mAg_29 : decode prog_6_method_15_code 29 = .ok (.iload_n 2, 1) := by decide +kernel
theorem d_mAg_30 : decode prog_6_method_15_code 30 = .ok (.if_icmp .eq 6, 3) := by decide +kernel
theorem d_mAg_33 : decode prog_6_method_15_code 33 = .ok (.bipush (-3), 2) := by decide +kernel
theorem d_mAg_35 : decode prog_6_method_15_code 35 = .ok (.ireturn, 1) := by decide +kernel
theorem d_mAg_36 : decode prog_6_method_15_code 36 = .ok (.aload_n 0, 1) := by decide +kernel
theorem d_mAg_37 : decode prog_6_method_15_code 37 = .ok (.iload_n 2, 1) := by decide +kernel
theorem d_mAg_38 : decode prog_6_method_15_code 38 = .ok (.invokevirtual 67, 3) := by decide +kernel
theorem d_mAg_41 : decode prog_6_method_15_code 41 = .ok (.ifCond .eq 8, 3) := by decide +kernel
theorem d_mAg_44 : decode prog_6_method_15_code 44 = .ok (.bipush (-4), 2) := by decide +kernel
theorem d_mAg_46 : decode prog_6_method_15_code 46 = .ok (.goto 19, 3) := by decide +kernel
theorem d_mAg_49 : decode prog_6_method_15_code 49 = .ok (.aload_n 0, 1) := by decide +kernel
theorem d_mAg_50 : decode prog_6_method_15_code 50 = .ok (.iload_n 2, 1) := by decide +kernel
theorem d_mAg_51 : decode prog_6_method_15_code 51 = .ok (.invokevirtual 89, 3) := by decide +kernel
theorem d_mAg_54 : decode prog_6_method_15_code 54 = .ok (.bipush 10, 2) := by decide +kernel
theorem d_mAg_56 : decode prog_6_method_15_code 56 = .ok (.if_icmp .lt 8, 3) := by decide +kernel
theorem d_mAg_59 : decode prog_6_method_15_code 59 = .ok (.bipush (-5), 2) := by decide +kernel
theorem d_mAg_61 : decode prog_6_method_15_code 61 = .ok (.goto 4, 3) := by decide +kernel
theorem d_mAg_64 : decode prog_6_method_15_code 64 = .ok (.iconst 0, 1) := by decide +kernel
theorem d_mAg_65 : decode prog_6_method_15_code 65 = .ok (.ireturn, 1) := by decide +kernel
theorem d_mBack_0 : decode prog_6_method_19_code 0 = .ok (.aload_n 0, 1) := by decide +kernel
theorem d_mBack_1 : decode prog_6_method_19_code 1 = .ok (.iconst 0, 1) := by decide +kernel
theorem d_mBack_2 : decode prog_6_method_19_code 2 = .ok (.putfield 60, 3) := by decide +kernel
theorem d_mBack_5 : decode prog_6_method_19_code 5 = .ok (.iload_n 1, 1) := by decide +kernel
theorem d_mBack_6 : decode prog_6_method_19_code 6 = .ok (.invokestatic 70, 3) := by decide +kernel
theorem d_mBack_9 : decode prog_6_method_19_code 9 = .ok (.ifCond .ne 5, 3) := by decide +kernel
theorem d_mBack_12 : decode prog_6_method_19_code 12 = .ok (.iconst (-1), 1) := by decide +kernel
theorem d_mBack_13 : decode prog_6_method_19_code 13 = .ok (.ireturn, 1) := by decide +kernel
theorem d_mBack_14 : decode prog_6_method_19_code 14 = .ok (.aload_n 0, 1) := by decide +kernel
theorem d_mBack_15 : decode prog_6_method_19_code 15 = .ok (.getfield 76, 3) := by decide +kernel
theorem d_mBack_18 : decode prog_6_method_19_code 18 = .ok (.ifCond .ne 9, 3) := by decide +kernel
theorem d_mBack_21 : decode prog_6_method_19_code 21 = .ok (.aload_n 0, 1) := by decide +kernel
theorem d_mBack_22 : decode prog_6_method_19_code 22 = .ok (.iload_n 1, 1) := by decide +kernel
theorem d_mBack_23 : decode prog_6_method_19_code 23 = .ok (.invokevirtual 108, 3) := by decide +kernel
theorem d_mBack_26 : decode prog_6_method_19_code 26 = .ok (.ireturn, 1) := by decide +kernel
theorem d_mBack_27 : decode prog_6_method_19_code 27 = .ok (.aload_n 0, 1) := by decide +kernel
theorem d_mBack_28 : decode prog_6_method_19_code 28 = .ok (.getfield 97, 3) := by decide +kernel
theorem d_mBack_31 : decode prog_6_method_19_code 31 = .ok (.aload_n 0, 1) := by decide +kernel
theorem d_mBack_32 : decode prog_6_method_19_code 32 = .ok (.getfield 53, 3) := by decide +kernel
theorem d_mBack_35 : decode prog_6_method_19_code 35 = .ok (.if_icmp .ne 6, 3) := by decide +kernel
theorem d_mBack_38 : decode prog_6_method_19_code 38 = .ok (.bipush (-7), 2) := by decide +kernel
theorem d_mBack_40 : decode prog_6_method_19_code 40 = .ok (.ireturn, 1) := by decide +kernel
theorem d_mBack_41 : decode prog_6_method_19_code 41 = .ok (.aload_n 0, 1) := by decide +kernel
theorem d_mBack_42 : decode prog_6_method_19_code 42 = .ok (.getfield 44, 3) := by decide +kernel
theorem d_mBack_45 : decode prog_6_method_19_code 45 = .ok (.aload_n 0, 1) := by decide +kernel
theorem d_mBack_46 : decode prog_6_method_19_code 46 = .ok (.getfield 97, 3) := by decide +kernel
theorem d_mBack_49 : decode prog_6_method_19_code 49 = .ok (.iload_n 1, 1) := by decide +kernel
theorem d_mBack_50 : decode prog_6_method_19_code 50 = .ok (.iastore, 1) := by decide +kernel
theorem d_mBack_51 : decode prog_6_method_19_code 51 = .ok (.aload_n 0, 1) := by decide +kernel
theorem d_mBack_52 : decode prog_6_method_19_code 52 = .ok (.getfield 47, 3) := by decide +kernel
theorem d_mBack_55 : decode prog_6_method_19_code 55 = .ok (.aload_n 0, 1) := by decide +kernel
theorem d_mBack_56 : decode prog_6_method_19_code 56 = .ok (.getfield 97, 3) := by decide +kernel
theorem d_mBack_59 : decode prog_6_method_19_code 59 = .ok (.iconst (-1), 1) := by decide +kernel
theorem d_mBack_60 : decode prog_6_method_19_code 60 = .ok (.iastore, 1) := by decide +kernel
theorem d_mBack_61 : decode prog_6_method_19_code 61 = .ok (.aload_n 0, 1) := by decide +kernel
theorem d_mBack_62 : decode prog_6_method_19_code 62 = .ok (.dup, 1) := by decide +kernel
theorem d_mBack_63 : decode prog_6_method_19_code 63 = .ok (.getfield 97, 3) := by decide +kernel
theorem d_mBack_66 : decode prog_6_method_19_code 66 = .ok (.iconst 1, 1) := by decide +kernel
theorem d_mBack_67 : decode prog_6_method_19_code 67 = .ok (.iadd, 1) := by decide +kernel
theorem d_mBack_68 : decode prog_6_method_19_code 68 = .ok (.putfield 97, 3) := by decide +kernel
theorem d_mBack_71 : decode prog_6_method_19_code 71 = .ok (.aload_n 0, 1) := by decide +kernel
theorem d_mBack_72 : decode prog_6_method_19_code 72 = .ok (.getfield 32, 3) := by decide +kernel
theorem d_mBack_75 : decode prog_6_method_19_code 75 = .ok (.iload_n 1, 1) := by decide +kernel
theorem d_mBack_76 : decode prog_6_method_19_code 76 = .ok (.iconst 0, 1) := by decide +kernel
theorem d_mBack_77 : decode prog_6_method_19_code 77 = .ok (.bastore, 1) := by decide +kernel
theorem d_mBack_78 : decode prog_6_method_19_code 78 = .ok (.iconst 0, 1) := by decide +kernel
theorem d_mBack_79 : decode prog_6_method_19_code 79 = .ok (.ireturn, 1) := by decide +kernel
theorem d_mBlock_0 : decode prog_6_method_7_code 0 = .ok (.aload_n 0, 1) := by decide +kernel
theorem d_mBlock_1 : decode prog_6_method_7_code 1 = .ok (.iconst 0, 1) := by decide +kernel
theorem d_mBlock_2 : decode prog_6_method_7_code 2 = .ok (.putfield 60, 3) := by decide +kernel
theorem d_mBlock_5 : decode prog_6_method_7_code 5 = .ok (.iload_n 1, 1) := by decide +kernel
theorem d_mBlock_6 : decode prog_6_method_7_code 6 = .ok (.invokestatic 63, 3) := by decide +kernel
theorem d_mBlock_9 : decode prog_6_method_7_code 9 = .ok (.ifCond .ne 5, 3) := by decide +kernel
theorem d_mBlock_12 : decode prog_6_method_7_code 12 = .ok (.iconst 0, 1) := by decide +kernel
theorem d_mBlock_13 : decode prog_6_method_7_code 13 = .ok (.ireturn, 1) := by decide +kernel
theorem d_mBlock_14 : decode prog_6_method_7_code 14 = .ok (.aload_n 0, 1) := by decide +kernel
theorem d_mBlock_15 : decode prog_6_method_7_code 15 = .ok (.iload_n 1, 1) := by decide +kernel
theorem d_mBlock_16 : decode prog_6_method_7_code 16 = .ok (.invokevirtual 67, 3) := by decide +kernel
theorem d_mBlock_19 : decode prog_6_method_7_code 19 = .ok (.istore_n 3, 1) := by decide +kernel
theorem d_mBlock_20 : decode prog_6_method_7_code 20 = .ok (.aload_n 0, 1) := by decide +kernel
theorem d_mBlock_21 : decode prog_6_method_7_code 21 = .ok (.getfield 16, 3) := by decide +kernel
