theorem dL_isMinute_399 : decode cL_isMinute 399 = .ok (.iload 11, 2) := by decide +kernel
theorem dL_isMinute_401 : decode cL_isMinute 401 = .ok (.sipush (-20000), 3) := by decide +kernel
theorem dL_isMinute_404 : decode cL_isMinute 404 = .ok (.if_icmp .ge 9, 3) := by decide +kernel
theorem dL_isMinute_407 : decode cL_isMinute 407 = .ok (.sipush (-20000), 3) := by decide +kernel
theorem dL_isMinute_410 : decode cL_isMinute 410 = .ok (.goto 5, 3) := by decide +kernel
theorem dL_isMinute_413 : decode cL_isMinute 413 = .ok (.iload 11, 2) := by decide +kernel
theorem dL_isMinute_415 : decode cL_isMinute 415 = .ok (.if_icmp .ne 34, 3) := by decide +kernel
theorem dL_isMinute_418 : decode cL_isMinute 418 = .ok (.aload_n 0, 1) := by decide +kernel
theorem dL_isMinute_419 : decode cL_isMinute 419 = .ok (.iload 9, 2) := by decide +kernel
theorem dL_isMinute_421 : decode cL_isMinute 421 = .ok (.invokevirtual 63, 3) := by decide +kernel
theorem dL_isMinute_424 : decode cL_isMinute 424 = .ok (.aload_n 2, 1) := by decide +kernel
theorem dL_isMinute_425 : decode cL_isMinute 425 = .ok (.bipush 24, 2) := by decide +kernel
theorem dL_isMinute_427 : decode cL_isMinute 427 = .ok (.iload 9, 2) := by decide +kernel
theorem dL_isMinute_429 : decode cL_isMinute 429 = .ok (.iadd, 1) := by decide +kernel
theorem dL_isMinute_430 : decode cL_isMinute 430 = .ok (.iaload, 1) := by decide +kernel
theorem dL_isMinute_431 : decode cL_isMinute 431 = .ok (.iload 18, 2) := by decide +kernel
theorem dL_isMinute_433 : decode cL_isMinute 433 = .ok (.ifCond .eq 7, 3) := by decide +kernel
theorem dL_isMinute_436 : decode cL_isMinute 436 = .ok (.iconst 1, 1) := by decide +kernel
theorem dL_isMinute_437 : decode cL_isMinute 437 = .ok (.goto 4, 3) := by decide +kernel
theorem dL_isMinute_440 : decode cL_isMinute 440 = .ok (.iconst 0, 1) := by decide +kernel
theorem dL_isMinute_441 : decode cL_isMinute 441 = .ok (.iadd, 1) := by decide +kernel
theorem dL_isMinute_442 : decode cL_isMinute 442 = .ok (.if_icmp .ne 7, 3) := by decide +kernel
theorem dL_isMinute_445 : decode cL_isMinute 445 = .ok (.iconst 1, 1) := by decide +kernel
theorem dL_isMinute_446 : decode cL_isMinute 446 = .ok (.goto 4, 3) := by decide +kernel
theorem dL_isMinute_449 : decode cL_isMinute 449 = .ok (.iconst 0, 1) := by decide +kernel
theorem dL_isMinute_450 : decode cL_isMinute 450 = .ok (.istore 8, 2) := by decide +kernel
theorem dL_isMinute_452 : decode cL_isMinute 452 = .ok (.iload 13, 2) := by decide +kernel
theorem dL_isMinute_454 : decode cL_isMinute 454 = .ok (.ifCond .ne 85, 3) := by decide +kernel
theorem dL_isMinute_457 : decode cL_isMinute 457 = .ok (.aload_n 0, 1) := by decide +kernel
theorem dL_isMinute_458 : decode cL_isMinute 458 = .ok (.iload 9, 2) := by decide +kernel
theorem dL_isMinute_460 : decode cL_isMinute 460 = .ok (.invokevirtual 57, 3) := by decide +kernel
theorem dL_isMinute_463 : decode cL_isMinute 463 = .ok (.istore 19, 2) := by decide +kernel
theorem dL_isMinute_465 : decode cL_isMinute 465 = .ok (.iload 8, 2) := by decide +kernel
theorem dL_isMinute_467 : decode cL_isMinute 467 = .ok (.ifCond .eq 66, 3) := by decide +kernel
theorem dL_isMinute_470 : decode cL_isMinute 470 = .ok (.iload 19, 2) := by decide +kernel
theorem dL_isMinute_472 : decode cL_isMinute 472 = .ok (.ifCond .ne 14, 3) := by decide +kernel
theorem dL_isMinute_475 : decode cL_isMinute 475 = .ok (.iload 17, 2) := by decide +kernel
theorem dL_isMinute_477 : decode cL_isMinute 477 = .ok (.sipush 10100, 3) := by decide +kernel
theorem dL_isMinute_480 : decode cL_isMinute 480 = .ok (.if_icmp .ge 53, 3) := by decide +kernel
theorem dL_isMinute_483 : decode cL_isMinute 483 = .ok (.goto 46, 3) := by decide +kernel
theorem dL_isMinute_486 : decode cL_isMinute 486 = .ok (.iload 19, 2) := by decide +kernel
theorem dL_isMinute_488 : decode cL_isMinute 488 = .ok (.bipush 100, 2) := by decide +kernel
theorem dL_isMinute_490 : decode cL_isMinute 490 = .ok (.if_icmp .ne 13, 3) := by decide +kernel
theorem dL_isMinute_493 : decode cL_isMinute 493 = .ok (.iload 17, 2) := by decide +kernel
theorem dL_isMinute_495 : decode cL_isMinute 495 = .ok (.ldc 113, 2) := by decide +kernel
theorem dL_isMinute_497 : decode cL_isMinute 497 = .ok (.if_icmp .lt 36, 3) := by decide +kernel
theorem dL_isMinute_500 : decode cL_isMinute 500 = .ok (.goto 29, 3) := by decide +kernel
theorem dL_isMinute_503 : decode cL_isMinute 503 = .ok (.iload 17, 2) := by decide +kernel
theorem dL_isMinute_505 : decode cL_isMinute 505 = .ok (.sipush 10000, 3) := by decide +kernel
theorem dL_isMinute_508 : decode cL_isMinute 508 = .ok (.iload 19, 2) := by decide +kernel
theorem dL_isMinute_510 : decode cL_isMinute 510 = .ok (.imul, 1) := by decide +kernel
theorem dL_isMinute_511 : decode cL_isMinute 511 = .ok (.if_icmp .lt 22, 3) := by decide +kernel
theorem dL_isMinute_514 : decode cL_isMinute 514 = .ok (.iload 17, 2) := by decide +kernel
theorem dL_isMinute_516 : decode cL_isMinute 516 = .ok (.sipush 10000, 3) := by decide +kernel
theorem dL_isMinute_519 : decode cL_isMinute 519 = .ok (.iload 19, 2) := by decide +kernel
theorem dL_isMinute_521 : decode cL_isMinute 521 = .ok (.imul, 1) := by decide +kernel
theorem dL_isMinute_522 : decode cL_isMinute 522 = .ok (.sipush 10100, 3) := by decide +kernel
theorem dL_isMinute_525 : decode cL_isMinute 525 = .ok (.iadd, 1) := by decide +kernel
theorem dL_isMinute_526 : decode cL_isMinute 526 = .ok (.if_icmp .ge 7, 3) := by decide +kernel
theorem dL_isMinute_529 : decode cL_isMinute 529 = .ok (.iconst 1, 1) := by decide +kernel
theorem dL_isMinute_530 : decode cL_isMinute 530 = .ok (.goto 4, 3) := by decide +kernel
theorem dL_isMinute_533 : decode cL_isMinute 533 = .ok (.iconst 0, 1) := by decide +kernel
theorem dL_isMinute_534 : decode cL_isMinute 534 = .ok (.istore 8, 2) := by decide +kernel
theorem dL_isMinute_536 : decode cL_isMinute 536 = .ok (.goto 71, 3) := by decide +kernel
theorem dL_isMinute_539 : decode cL_isMinute 539 = .ok (.iload 8, 2) := by decide +kernel
theorem dL_isMinute_541 : decode cL_isMinute 541 = .ok (.ifCond .eq 63, 3) := by decide +kernel
theorem dL_isMinute_544 : decode cL_isMinute 544 = .ok (.iload 14, 2) := by decide +kernel
theorem dL_isMinute_546 : decode cL_isMinute 546 = .ok (.ifCond .gt 14, 3) := by decide +kernel
theorem dL_isMinute_549 : decode cL_isMinute 549 = .ok (.aload_n 0, 1) := by decide +kernel
theorem dL_isMinute_550 : decode cL_isMinute 550 = .ok (.iload 9, 2) := by decide +kernel
theorem dL_isMinute_552 : decode cL_isMinute 552 = .ok (.invokevirtual 57, 3) := by decide +kernel
theorem dL_isMinute_555 : decode cL_isMinute 555 = .ok (.bipush 100, 2) := by decide +kernel
theorem dL_isMinute_557 : decode cL_isMinute 557 = .ok (.if_icmp .ne 47, 3) := by decide +kernel
theorem dL_isMinute_560 : decode cL_isMinute 560 = .ok (.iload 17, 2) := by decide +kernel
theorem dL_isMinute_562 : decode cL_isMinute 562 = .ok (.ldc 113, 2) := by decide +kernel
theorem dL_isMinute_564 : decode cL_isMinute 564 = .ok (.if_icmp .lt 14, 3) := by decide +kernel
theorem dL_isMinute_567 : decode cL_isMinute 567 = .ok (.aload_n 0, 1) := by decide +kernel
theorem dL_isMinute_568 : decode cL_isMinute 568 = .ok (.iload 9, 2) := by decide +kernel
theorem dL_isMinute_570 : decode cL_isMinute 570 = .ok (.invokevirtual 57, 3) := by decide +kernel
theorem dL_isMinute_573 : decode cL_isMinute 573 = .ok (.bipush 100, 2) := by decide +kernel
theorem dL_isMinute_575 : decode cL_isMinute 575 = .ok (.if_icmp .ne 29, 3) := by decide +kernel
theorem dL_isMinute_578 : decode cL_isMinute 578 = .ok (.iload 17, 2) := by decide +kernel
theorem dL_isMinute_580 : decode cL_isMinute 580 = .ok (.sipush 10000, 3) := by decide +kernel
theorem dL_isMinute_583 : decode cL_isMinute 583 = .ok (.if_icmp .ge 17, 3) := by decide +kernel
theorem dL_isMinute_586 : decode cL_isMinute 586 = .ok (.iload 14, 2) := by decide +kernel
theorem dL_isMinute_588 : decode cL_isMinute 588 = .ok (.ifCond .eq 12, 3) := by decide +kernel
theorem dL_isMinute_591 : decode cL_isMinute 591 = .ok (.aload_n 0, 1) := by decide +kernel
theorem dL_isMinute_592 : decode cL_isMinute 592 = .ok (.iload 9, 2) := by decide +kernel
theorem dL_isMinute_594 : decode cL_isMinute 594 = .ok (.invokevirtual 57, 3) := by decide +kernel
theorem dL_isMinute_597 : decode cL_isMinute 597 = .ok (.ifCond .ne 7, 3) := by decide +kernel
theorem dL_isMinute_600 : decode cL_isMinute 600 = .ok (.iconst 1, 1) := by decide +kernel
theorem dL_isMinute_601 : decode cL_isMinute 601 = .ok (.goto 4, 3) := by decide +kernel
theorem dL_isMinute_604 : decode cL_isMinute 604 = .ok (.iconst 0, 1) := by decide +kernel
theorem dL_isMinute_605 : decode cL_isMinute 605 = .ok (.istore 8, 2) := by decide +kernel
theorem dL_isMinute_607 : decode cL_isMinute 607 = .ok (.iinc 9 1, 3) := by decide +kernel
theorem dL_isMinute_610 : decode cL_isMinute 610 = .ok (.goto (-496), 3) := by decide +kernel
theorem dL_isMinute_613 : decode cL_isMinute 613 = .ok (.iconst 0, 1) := by decide +kernel
theorem dL_isMinute_614 : decode cL_isMinute 614 = .ok (.istore 9, 2) := by decide +kernel
theorem dL_isMinute_616 : decode cL_isMinute 616 = .ok (.iload 9, 2) := by decide +kernel
theorem dL_isMinute_618 : decode cL_isMinute 618 = .ok (.bipush 8, 2) := by decide +kernel
theorem dL_isMinute_620 : decode cL_isMinute 620 = .ok (.if_icmp .ge 140, 3) := by decide +kernel
theorem dL_isMinute_623 : decode cL_isMinute 623 = .ok (.iload 8, 2) := by decide +kernel
theorem dL_isMinute_625 : decode cL_isMinute 625 = .ok (.ifCond .eq 135, 3) := by decide +kernel
theorem dL_isMinute_628 : decode cL_isMinute 628 = .ok (.iconst 0, 1) := by decide +kernel
theorem dL_isMinute_629 : decode cL_isMinute 629 = .ok (.istore 10, 2) := by decide +kernel
theorem dL_isMinute_631 : decode cL_isMinute 631 = .ok (.iconst 0, 1) := by decide +kernel
theorem dL_isMinute_632 : decode cL_isMinute 632 = .ok (.istore 11, 2) := by decide +kernel
theorem dL_isMinute_634 : decode cL_isMinute 634 = .ok (.iload 11, 2) := by decide +kernel
theorem dL_isMinute_636 : decode cL_isMinute 636 = .ok (.bipush 6, 2) := by decide +kernel
theorem dL_isMinute_638 : decode cL_isMinute 638 = .ok (.if_icmp .ge 46, 3) := by decide +kernel
theorem dL_isMinute_641 : decode cL_isMinute 641 = .ok (.aload_n 1, 1) := by decide +kernel
theorem dL_isMinute_642 : decode cL_isMinute 642 = .ok (.bipush 6, 2) := by decide +kernel
theorem dL_isMinute_644 : decode cL_isMinute 644 = .ok (.iload 9, 2) := by decide +kernel
theorem dL_isMinute_646 : decode cL_isMinute 646 = .ok (.imul, 1) := by decide +kernel
theorem dL_isMinute_647 : decode cL_isMinute 647 = .ok (.iload 11, 2) := by decide +kernel
theorem dL_isMinute_649 : decode cL_isMinute 649 = .ok (.iadd, 1) := by decide +kernel
theorem dL_isMinute_650 : decode cL_isMinute 650 = .ok (.iaload, 1) := by decide +kernel
theorem dL_isMinute_651 : decode cL_isMinute 651 = .ok (.ifCond .le 23, 3) := by decide +kernel
theorem dL_isMinute_654 : decode cL_isMinute 654 = .ok (.aload_n 0, 1) := by decide +kernel
theorem dL_isMinute_655 : decode cL_isMinute 655 = .ok (.iload 11, 2) := by decide +kernel
theorem dL_isMinute_657 : decode cL_isMinute 657 = .ok (.invokevirtual 57, 3) := by decide +kernel
theorem dL_isMinute_660 : decode cL_isMinute 660 = .ok (.iload 10, 2) := by decide +kernel
theorem dL_isMinute_662 : decode cL_isMinute 662 = .ok (.if_icmp .le 12, 3) := by decide +kernel
theorem dL_isMinute_665 : decode cL_isMinute 665 = .ok (.aload_n 0, 1) := by decide +kernel
theorem dL_isMinute_666 : decode cL_isMinute 666 = .ok (.iload 11, 2) := by decide +kernel
theorem dL_isMinute_668 : decode cL_isMinute 668 = .ok (.invokevirtual 57, 3) := by decide +kernel
theorem dL_isMinute_671 : decode cL_isMinute 671 = .ok (.goto 5, 3) := by decide +kernel
theorem dL_isMinute_674 : decode cL_isMinute 674 = .ok (.iload 10, 2) := by decide +kernel
theorem dL_isMinute_676 : decode cL_isMinute 676 = .ok (.istore 10, 2) := by decide +kernel
theorem dL_isMinute_678 : decode cL_isMinute 678 = .ok (.iinc 11 1, 3) := by decide +kernel
theorem dL_isMinute_681 : decode cL_isMinute 681 = .ok (.goto (-47), 3) := by decide +kernel
theorem dL_isMinute_684 : decode cL_isMinute 684 = .ok (.aload_n 0, 1) := by decide +kernel
theorem dL_isMinute_685 : decode cL_isMinute 685 = .ok (.iload 9, 2) := by decide +kernel
theorem dL_isMinute_687 : decode cL_isMinute 687 = .ok (.invokevirtual 48, 3) := by decide +kernel
theorem dL_isMinute_690 : decode cL_isMinute 690 = .ok (.iload 10, 2) := by decide +kernel
theorem dL_isMinute_692 : decode cL_isMinute 692 = .ok (.if_icmp .ne 59, 3) := by decide +kernel
theorem dL_isMinute_695 : decode cL_isMinute 695 = .ok (.aload_n 3, 1) := by decide +kernel
theorem dL_isMinute_696 : decode cL_isMinute 696 = .ok (.iconst 4, 1) := by decide +kernel
theorem dL_isMinute_697 : decode cL_isMinute 697 = .ok (.iaload, 1) := by decide +kernel
theorem dL_isMinute_698 : decode cL_isMinute 698 = .ok (.ifCond .gt 30, 3) := by decide +kernel
theorem dL_isMinute_701 : decode cL_isMinute 701 = .ok (.aload_n 0, 1) := by decide +kernel
theorem dL_isMinute_702 : decode cL_isMinute 702 = .ok (.iload 9, 2) := by decide +kernel
theorem dL_isMinute_704 : decode cL_isMinute 704 = .ok (.invokevirtual 51, 3) := by decide +kernel
theorem dL_isMinute_707 : decode cL_isMinute 707 = .ok (.aload_n 3, 1) := by decide +kernel
theorem dL_isMinute_708 : decode cL_isMinute 708 = .ok (.iconst 5, 1) := by decide +kernel
theorem dL_isMinute_709 : decode cL_isMinute 709 = .ok (.iaload, 1) := by decide +kernel
theorem dL_isMinute_710 : decode cL_isMinute 710 = .ok (.iload 9, 2) := by decide +kernel
theorem dL_isMinute_712 : decode cL_isMinute 712 = .ok (.ishr, 1) := by decide +kernel
theorem dL_isMinute_713 : decode cL_isMinute 713 = .ok (.iconst 1, 1) := by decide +kernel
theorem dL_isMinute_714 : decode cL_isMinute 714 = .ok (.iand, 1) := by decide +kernel
theorem dL_isMinute_715 : decode cL_isMinute 715 = .ok (.iconst 1, 1) := by decide +kernel
theorem dL_isMinute_716 : decode cL_isMinute 716 = .ok (.if_icmp .ne 7, 3) := by decide +kernel
theorem dL_isMinute_719 : decode cL_isMinute 719 = .ok (.iconst 0, 1) := by decide +kernel
theorem dL_isMinute_720 : decode cL_isMinute 720 = .ok (.goto 5, 3) := by decide +kernel
theorem dL_isMinute_723 : decode cL_isMinute 723 = .ok (.iload 10, 2) := by decide +kernel
theorem dL_isMinute_725 : decode cL_isMinute 725 = .ok (.if_icmp .ne 26, 3) := by decide +kernel
theorem dL_isMinute_728 : decode cL_isMinute 728 = .ok (.aload_n 0, 1) := by decide +kernel
theorem dL_isMinute_729 : decode cL_isMinute 729 = .ok (.invokevirtual 75, 3) := by decide +kernel
theorem dL_isMinute_732 : decode cL_isMinute 732 = .ok (.aload_n 3, 1) := by decide +kernel
theorem dL_isMinute_733 : decode cL_isMinute 733 = .ok (.iconst 4, 1) := by decide +kernel
theorem dL_isMinute_734 : decode cL_isMinute 734 = .ok (.iaload, 1) := by decide +kernel
theorem dL_isMinute_735 : decode cL_isMinute 735 = .ok (.if_icmp .gt 12, 3) := by decide +kernel
theorem dL_isMinute_738 : decode cL_isMinute 738 = .ok (.aload_n 0, 1) := by decide +kernel
theorem dL_isMinute_739 : decode cL_isMinute 739 = .ok (.iload 9, 2) := by decide +kernel
theorem dL_isMinute_741 : decode cL_isMinute 741 = .ok (.invokevirtual 51, 3) := by decide +kernel
theorem dL_isMinute_744 : decode cL_isMinute 744 = .ok (.ifCond .ne 7, 3) := by decide +kernel
theorem dL_isMinute_747 : decode cL_isMinute 747 = .ok (.iconst 1, 1) := by decide +kernel
theorem dL_isMinute_748 : decode cL_isMinute 748 = .ok (.goto 4, 3) := by decide +kernel
theorem dL_isMinute_751 : decode cL_isMinute 751 = .ok (.iconst 0, 1) := by decide +kernel
theorem dL_isMinute_752 : decode cL_isMinute 752 = .ok (.istore 8, 2) := by decide +kernel
theorem dL_isMinute_754 : decode cL_isMinute 754 = .ok (.iinc 9 1, 3) := by decide +kernel
theorem dL_isMinute_757 : decode cL_isMinute 757 = .ok (.goto (-141), 3) := by decide +kernel
theorem dL_isMinute_760 : decode cL_isMinute 760 = .ok (.iload 8, 2) := by decide +kernel
theorem dL_isMinute_762 : decode cL_isMinute 762 = .ok (.ifCond .eq 14, 3) := by decide +kernel
theorem dL_isMinute_765 : decode cL_isMinute 765 = .ok (.iload 7, 2) := by decide +kernel
theorem dL_isMinute_767 : decode cL_isMinute 767 = .ok (.iload 4, 2) := by decide +kernel
theorem dL_isMinute_769 : decode cL_isMinute 769 = .ok (.if_icmp .ne 7, 3) := by decide +kernel
theorem dL_isMinute_772 : decode cL_isMinute 772 = .ok (.iconst 1, 1) := by decide +kernel
theorem dL_isMinute_773 : decode cL_isMinute 773 = .ok (.goto 4, 3) := by decide +kernel
theorem dL_isMinute_776 : decode cL_isMinute 776 = .ok (.iconst 0, 1) := by decide +kernel
theorem dL_isMinute_777 : decode cL_isMinute 777 = .ok (.ireturn, 1) := by decide +kernel
set_option maxRecDepth 20000 in
theorem ggL_isAsked_L_all : GoodIn wsL_isAsked wsL_all := goodIn_ca (goodIn_r _ [4, 5, 6, 7, 8, 9, 10, 11, 12, 13, 14, 15, 16, 17, 18, 19, 20, 21, 22, 23, 24, 25, 26, 27, 28, 29, 30, 31, 32, 33, 34, 35, 36, 37, 38, 39, 40, 41, 42, 43, 44, 45, 46, 47, 48, 49, 50, 51, 52, 53, 54, 55, 56, 57, 58, 59, 60, 61, 62, 63, 64, 65, 66, 67, 68, 166, 167, 168, 169, 170, 171, 172, 173, 174, 175, 176, 177] (by decide +kernel) (by decide +kernel)) (goodIn_sub (fun _ h => List.mem_cons_of_mem _ (List.mem_append_right _ h)) (by decide +kernel))
set_option maxRecDepth 20000 in
theorem gL_isAsked_L_all : GoodIn wsL_isAsked (va_wsS RL 94 yL_all wsL_all) := goodIn_app (goodIn_of _ (by decide +kernel)) ggL_isAsked_L_all
set_option maxRecDepth 20000 in
theorem ggL_isAsked_X2_expected : GoodIn wsL_isAsked wsX2_expected := goodIn_ca (goodIn_r _ [72, 73, 74, 14, 75, 23, 24, 25, 26, 27, 28, 29, 30, 76, 77, 78, 79, 80, 21, 81, 22, 82, 83, 84, 85, 86, 87, 88, 56, 89, 90, 91, 92, 93, 94, 95, 96, 97, 98, 58, 59, 99, 100, 101, 102, 103, 104, 105, 106, 107, 108, 109, 110, 111, 112, 113, 114, 115, 116, 117, 118, 119, 120, 62, 121, 122, 123, 124, 125, 126, 127, 128, 129, 130, 131, 60, 61, 63, 132, 54, 55, 57, 133, 134, 135, 136, 137, 138, 139, 140, 141, 142, 143, 144, 145, 146, 147, 148, 166, 167, 168, 169, 170, 171, 172, 173, 174, 175, 176, 177, 178, 179, 180, 181, 182, 183, 184, 185] (by decide +kernel) (by decide +kernel)) (goodIn_sub (fun _ h => List.mem_cons_of_mem _ (List.mem_append_right _ h)) (by decide +kernel))
set_option maxRecDepth 20000 in
theorem gL_isAsked_X2_expected : GoodIn wsL_isAsked (wsV RL 66 RX2 yX2_expected wsX2_expected) := goodIn_app (goodIn_of _ (by decide +kernel)) ggL_isAsked_X2_expected
set_option maxRecDepth 20000 in
theorem ggL_isAsked_X2_critical : GoodIn wsL_isAsked wsX2_critical := goodIn_ca (goodIn_r _ [152, 73, 74, 14, 75, 23, 24, 25, 26, 27, 28, 29, 30, 153, 154, 155, 156, 21, 157, 76, 77, 78, 79, 80, 81, 22, 82, 83, 84, 85, 86, 87, 88, 56, 89, 90, 91, 92, 93, 94, 95, 96, 97, 98, 58, 59, 99, 100, 101, 102, 103, 104, 105, 106, 107, 108, 109, 110, 111, 112, 113, 114, 115, 116, 117, 118, 119, 120, 62, 121, 122, 123, 124, 125, 126, 127, 128, 129, 130, 131, 60, 61, 63, 132, 54, 55, 57, 133, 134, 135, 136, 137, 138, 139, 140, 141, 142, 143, 144, 145, 146, 147, 148, 166, 167, 168, 169, 170, 171, 172, 173, 174, 175, 176, 177, 178, 179, 180, 181, 182, 183, 184, 185] (by decide +kernel) (by decide +kernel)) (goodIn_sub (fun _ h => List.mem_cons_of_mem _ (List.mem_append_right _ h)) (by decide +kernel))
set_option maxRecDepth 20000 in
theorem gL_isAsked_X2_critical : GoodIn wsL_isAsked (wsV RL 69 RX2 yX2_critical wsX2_critical) := goodIn_app (goodIn_of _ (by decide +kernel)) ggL_isAsked_X2_critical
set_option maxRecDepth 20000 in
theorem ggL_isAsked_X2_margin : GoodIn wsL_isAsked wsX2_margin := goodIn_ca (goodIn_r _ [161, 81, 162, 73, 74, 14, 75, 23, 24, 25, 26, 27, 28, 29, 30, 153, 154, 155, 156, 21, 157, 76, 77, 78, 79, 80, 22, 82, 83, 84, 85, 86, 87, 88, 56, 89, 90, 91, 92, 93, 94, 95, 96, 97, 98, 58, 59, 99, 100, 101, 102, 103, 104, 105, 106, 107, 108, 109, 110, 111, 112, 113, 114, 115, 116, 117, 118, 119, 120, 62, 121, 122, 123, 124, 125, 126, 127, 128, 129, 130, 131, 60, 61, 63, 132, 54, 55, 57, 133, 134, 135, 136, 137, 138, 139, 140, 141, 142, 143, 144, 145, 146, 147, 148, 166, 167, 168, 169, 170, 178, 179, 180, 181, 182, 183, 184, 185, 171, 172, 173, 174, 175, 176, 177] (by decide +kernel) (by decide +kernel)) (goodIn_sub (fun _ h => List.mem_cons_of_mem _ (List.mem_append_right _ h)) (by decide +kernel))
set_option maxRecDepth 20000 in
theorem gL_isAsked_X2_margin : GoodIn wsL_isAsked (wsV RL 72 RX2 yX2_margin wsX2_margin) := goodIn_app (goodIn_of _ (by decide +kernel)) ggL_isAsked_X2_margin
set_option maxRecDepth 20000 in
theorem ggL_isAsked_L_running : GoodIn wsL_isAsked wsL_running := goodIn_r _ [165] (by decide +kernel) (by decide +kernel)
set_option maxRecDepth 20000 in
theorem gL_isAsked_L_running : GoodIn wsL_isAsked (va_wsS RL 114 yL_running wsL_running) := goodIn_app (goodIn_of _ (by decide +kernel)) ggL_isAsked_L_running
theorem dL_isAsked_0 : decode cL_isAsked 0 = .ok (.aload_n 0, 1) := by decide +kernel
theorem dL_isAsked_1 : decode cL_isAsked 1 = .ok (.invokestatic 94, 3) := by decide +kernel
theorem dL_isAsked_4 : decode cL_isAsked 4 = .ok (.lstore 4, 2) := by decide +kernel
theorem dL_isAsked_6 : decode cL_isAsked 6 = .ok (.aload_n 0, 1) := by decide +kernel
theorem dL_isAsked_7 : decode cL_isAsked 7 = .ok (.iload_n 1, 1) := by decide +kernel
theorem dL_isAsked_8 : decode cL_isAsked 8 = .ok (.iload_n 2, 1) := by decide +kernel
theorem dL_isAsked_9 : decode cL_isAsked 9 = .ok (.invokevirtual 66, 3) := by decide +kernel
theorem dL_isAsked_12 : decode cL_isAsked 12 = .ok (.istore 6, 2) := by decide +kernel
theorem dL_isAsked_14 : decode cL_isAsked 14 = .ok (.aload_n 0, 1) := by decide +kernel
theorem dL_isAsked_15 : decode cL_isAsked 15 = .ok (.iload_n 1, 1) := by decide +kernel
theorem dL_isAsked_16 : decode cL_isAsked 16 = .ok (.iload_n 2, 1) := by decide +kernel
theorem dL_isAsked_17 : decode cL_isAsked 17 = .ok (.invokevirtual 69, 3) := by decide +kernel
theorem dL_isAsked_20 : decode cL_isAsked 20 = .ok (.istore 7, 2) := by decide +kernel
theorem dL_isAsked_22 : decode cL_isAsked 22 = .ok (.aload_n 0, 1) := by decide +kernel
theorem dL_isAsked_23 : decode cL_isAsked 23 = .ok (.iload_n 1, 1) := by decide +kernel
theorem dL_isAsked_24 : decode cL_isAsked 24 = .ok (.iload_n 2, 1) := by decide +kernel
theorem dL_isAsked_25 : decode cL_isAsked 25 = .ok (.invokevirtual 72, 3) := by decide +kernel
theorem dL_isAsked_28 : decode cL_isAsked 28 = .ok (.istore 8, 2) := by decide +kernel
theorem dL_isAsked_30 : decode cL_isAsked 30 = .ok (.aload_n 0, 1) := by decide +kernel
theorem dL_isAsked_31 : decode cL_isAsked 31 = .ok (.invokestatic 94, 3) := by decide +kernel
theorem dL_isAsked_34 : decode cL_isAsked 34 = .ok (.lload 4, 2) := by decide +kernel
theorem dL_isAsked_36 : decode cL_isAsked 36 = .ok (.lcmp, 1) := by decide +kernel
theorem dL_isAsked_37 : decode cL_isAsked 37 = .ok (.ifCond .ne 63, 3) := by decide +kernel
theorem dL_isAsked_40 : decode cL_isAsked 40 = .ok (.iload 7, 2) := by decide +kernel
theorem dL_isAsked_42 : decode cL_isAsked 42 = .ok (.iconst (-1), 1) := by decide +kernel
theorem dL_isAsked_43 : decode cL_isAsked 43 = .ok (.if_icmp .ne 7, 3) := by decide +kernel
theorem dL_isAsked_46 : decode cL_isAsked 46 = .ok (.iconst 1, 1) := by decide +kernel
theorem dL_isAsked_47 : decode cL_isAsked 47 = .ok (.goto 4, 3) := by decide +kernel
theorem dL_isAsked_50 : decode cL_isAsked 50 = .ok (.iconst 0, 1) := by decide +kernel
theorem dL_isAsked_51 : decode cL_isAsked 51 = .ok (.aload_n 3, 1) := by decide +kernel
theorem dL_isAsked_52 : decode cL_isAsked 52 = .ok (.invokestatic 114, 3) := by decide +kernel
theorem dL_isAsked_55 : decode cL_isAsked 55 = .ok (.ifCond .ne 7, 3) := by decide +kernel
theorem dL_isAsked_58 : decode cL_isAsked 58 = .ok (.iconst 1, 1) := by decide +kernel
theorem dL_isAsked_59 : decode cL_isAsked 59 = .ok (.goto 4, 3) := by decide +kernel
theorem dL_isAsked_62 : decode cL_isAsked 62 = .ok (.iconst 0, 1) := by decide +kernel
theorem dL_isAsked_63 : decode cL_isAsked 63 = .ok (.if_icmp .ne 37, 3) := by decide +kernel
theorem dL_isAsked_66 : decode cL_isAsked 66 = .ok (.iload 7, 2) := by decide +kernel
theorem dL_isAsked_68 : decode cL_isAsked 68 = .ok (.ifCond .ge 17, 3) := by decide +kernel
theorem dL_isAsked_71 : decode cL_isAsked 71 = .ok (.iload 8, 2) := by decide +kernel
theorem dL_isAsked_73 : decode cL_isAsked 73 = .ok (.aload_n 3, 1) := by decide +kernel
theorem dL_isAsked_74 : decode cL_isAsked 74 = .ok (.iconst 3, 1) := by decide +kernel
theorem dL_isAsked_75 : decode cL_isAsked 75 = .ok (.iaload, 1) := by decide +kernel
theorem dL_isAsked_76 : decode cL_isAsked 76 = .ok (.iload 6, 2) := by decide +kernel
theorem dL_isAsked_78 : decode cL_isAsked 78 = .ok (.isub, 1) := by decide +kernel
theorem dL_isAsked_79 : decode cL_isAsked 79 = .ok (.if_icmp .ne 21, 3) := by decide +kernel
theorem dL_isAsked_82 : decode cL_isAsked 82 = .ok (.goto 14, 3) := by decide +kernel
theorem dL_isAsked_85 : decode cL_isAsked 85 = .ok (.aload_n 3, 1) := by decide +kernel
theorem dL_isAsked_86 : decode cL_isAsked 86 = .ok (.iconst 5, 1) := by decide +kernel
theorem dL_isAsked_87 : decode cL_isAsked 87 = .ok (.iaload, 1) := by decide +kernel
theorem dL_isAsked_88 : decode cL_isAsked 88 = .ok (.iload 7, 2) := by decide +kernel
theorem dL_isAsked_90 : decode cL_isAsked 90 = .ok (.ishr, 1) := by decide +kernel
theorem dL_isAsked_91 : decode cL_isAsked 91 = .ok (.iconst 1, 1) := by decide +kernel
theorem dL_isAsked_92 : decode cL_isAsked 92 = .ok (.iand, 1) := by decide +kernel
theorem dL_isAsked_93 : decode cL_isAsked 93 = .ok (.ifCond .ne 7, 3) := by decide +kernel
theorem dL_isAsked_96 : decode cL_isAsked 96 = .ok (.iconst 1, 1) := by decide +kernel
theorem dL_isAsked_97 : decode cL_isAsked 97 = .ok (.goto 4, 3) := by decide +kernel
theorem dL_isAsked_100 : decode cL_isAsked 100 = .ok (.iconst 0, 1) := by decide +kernel
theorem dL_isAsked_101 : decode cL_isAsked 101 = .ok (.istore 9, 2) := by decide +kernel
theorem dL_isAsked_103 : decode cL_isAsked 103 = .ok (.aload_n 0, 1) := by decide +kernel
theorem dL_isAsked_104 : decode cL_isAsked 104 = .ok (.iload_n 1, 1) := by decide +kernel
theorem dL_isAsked_105 : decode cL_isAsked 105 = .ok (.iconst 1, 1) := by decide +kernel
theorem dL_isAsked_106 : decode cL_isAsked 106 = .ok (.invokevirtual 66, 3) := by decide +kernel
theorem dL_isAsked_109 : decode cL_isAsked 109 = .ok (.istore 10, 2) := by decide +kernel
theorem dL_isAsked_111 : decode cL_isAsked 111 = .ok (.iconst 2, 1) := by decide +kernel
theorem dL_isAsked_112 : decode cL_isAsked 112 = .ok (.istore 11, 2) := by decide +kernel
theorem dL_isAsked_114 : decode cL_isAsked 114 = .ok (.iload 11, 2) := by decide +kernel
theorem dL_isAsked_116 : decode cL_isAsked 116 = .ok (.iload_n 2, 1) := by decide +kernel
theorem dL_isAsked_117 : decode cL_isAsked 117 = .ok (.if_icmp .gt 48, 3) := by decide +kernel
theorem dL_isAsked_120 : decode cL_isAsked 120 = .ok (.iload 9, 2) := by decide +kernel
theorem dL_isAsked_122 : decode cL_isAsked 122 = .ok (.ifCond .eq 43, 3) := by decide +kernel
theorem dL_isAsked_125 : decode cL_isAsked 125 = .ok (.aload_n 0, 1) := by decide +kernel
theorem dL_isAsked_126 : decode cL_isAsked 126 = .ok (.iload_n 1, 1) := by decide +kernel
theorem dL_isAsked_127 : decode cL_isAsked 127 = .ok (.iload 11, 2) := by decide +kernel
theorem dL_isAsked_129 : decode cL_isAsked 129 = .ok (.invokevirtual 66, 3) := by decide +kernel
theorem dL_isAsked_132 : decode cL_isAsked 132 = .ok (.istore 12, 2) := by decide +kernel
theorem dL_isAsked_134 : decode cL_isAsked 134 = .ok (.iload 12, 2) := by decide +kernel
theorem dL_isAsked_136 : decode cL_isAsked 136 = .ok (.iload 10, 2) := by decide +kernel
theorem dL_isAsked_138 : decode cL_isAsked 138 = .ok (.if_icmp .lt 14, 3) := by decide +kernel
theorem dL_isAsked_141 : decode cL_isAsked 141 = .ok (.iload 12, 2) := by decide +kernel
theorem dL_isAsked_143 : decode cL_isAsked 143 = .ok (.iload 6, 2) := by decide +kernel
theorem dL_isAsked_145 : decode cL_isAsked 145 = .ok (.if_icmp .gt 7, 3) := by decide +kernel
theorem dL_isAsked_148 : decode cL_isAsked 148 = .ok (.iconst 1, 1) := by decide +kernel
theorem dL_isAsked_149 : decode cL_isAsked 149 = .ok (.goto 4, 3) := by decide +kernel
theorem dL_isAsked_152 : decode cL_isAsked 152 = .ok (.iconst 0, 1) := by decide +kernel
theorem dL_isAsked_153 : decode cL_isAsked 153 = .ok (.istore 9, 2) := by decide +kernel
theorem dL_isAsked_155 : decode cL_isAsked 155 = .ok (.iload 12, 2) := by decide +kernel
theorem dL_isAsked_157 : decode cL_isAsked 157 = .ok (.istore 10, 2) := by decide +kernel
theorem dL_isAsked_159 : decode cL_isAsked 159 = .ok (.iinc 11 1, 3) := by decide +kernel
theorem dL_isAsked_162 : decode cL_isAsked 162 = .ok (.goto (-48), 3) := by decide +kernel
theorem dL_isAsked_165 : decode cL_isAsked 165 = .ok (.iload 9, 2) := by decide +kernel
theorem dL_isAsked_167 : decode cL_isAsked 167 = .ok (.ifCond .eq 14, 3) := by decide +kernel
theorem dL_isAsked_170 : decode cL_isAsked 170 = .ok (.iload 10, 2) := by decide +kernel
theorem dL_isAsked_172 : decode cL_isAsked 172 = .ok (.iload 6, 2) := by decide +kernel
theorem dL_isAsked_174 : decode cL_isAsked 174 = .ok (.if_icmp .ne 7, 3) := by decide +kernel
theorem dL_isAsked_177 : decode cL_isAsked 177 = .ok (.iconst 1, 1) := by decide +kernel
theorem dL_isAsked_178 : decode cL_isAsked 178 = .ok (.goto 4, 3) := by decide +kernel
theorem dL_isAsked_181 : decode cL_isAsked 181 = .ok (.iconst 0, 1) := by decide +kernel
theorem dL_isAsked_182 : decode cL_isAsked 182 = .ok (.ireturn, 1) := by decide +kernel
set_option maxRecDepth 20000 in
theorem ggL_isFailing_X2_critical : GoodIn wsL_isFailing wsX2_critical := goodIn_ca (goodIn_r _ [6, 7, 8, 5, 9, 10, 11, 12, 13, 14, 15, 16, 17, 18, 19, 20, 21, 22, 23, 24, 25, 26, 27, 28, 29, 30, 31, 32, 33, 34, 35, 36, 37, 38, 39, 40, 41, 42, 43, 44, 45, 46, 47, 48, 49, 50, 51, 52, 53, 54, 55, 56, 57, 58, 59, 60, 61, 62, 63, 64, 65, 66, 67, 68, 69, 70, 71, 72, 73, 74, 75, 76, 77, 78, 79, 80, 81, 82, 83, 84, 85, 86, 87, 88, 89, 90, 91, 92, 93, 94, 95, 96, 97, 98, 99, 100, 101, 102, 103, 104, 105, 106, 107, 186, 187, 188, 189, 190, 191, 192, 193, 194, 195, 196, 197, 198, 199, 200, 201, 202, 203, 204, 205] (by decide +kernel) (by decide +kernel)) (goodIn_sub (fun _ h => List.mem_cons_of_mem _ (List.mem_append_left _ (List.mem_append_right _ h))) (by decide +kernel))
set_option maxRecDepth 20000 in
theorem gL_isFailing_X2_critical : GoodIn wsL_isFailing (wsV RL 69 RX2 yX2_critical wsX2_critical) := goodIn_app (goodIn_of _ (by decide +kernel)) ggL_isFailing_X2_critical
set_option maxRecDepth 20000 in
theorem ggL_isFailing_X2_margin : GoodIn wsL_isFailing wsX2_margin := goodIn_ca (goodIn_r _ [111, 29, 112, 7, 8, 5, 9, 10, 11, 12, 13, 14, 15, 16, 17, 18, 19, 20, 21, 22, 23, 24, 25, 26, 27, 28, 30, 31, 32, 33, 34, 35, 36, 37, 38, 39, 40, 41, 42, 43, 44, 45, 46, 47, 48, 49, 50, 51, 52, 53, 54, 55, 56, 57, 58, 59, 60, 61, 62, 63, 64, 65, 66, 67, 68, 69, 70, 71, 72, 73, 74, 75, 76, 77, 78, 79, 80, 81, 82, 83, 84, 85, 86, 87, 88, 89, 90, 91, 92, 93, 94, 95, 96, 97, 98, 99, 100, 101, 102, 103, 104, 105, 106, 107, 186, 187, 188, 189, 190, 198, 199, 200, 201, 202, 203, 204, 205, 191, 192, 193, 194, 195, 196, 197] (by decide +kernel) (by decide +kernel)) (goodIn_sub (fun _ h => List.mem_cons_of_mem _ (List.mem_append_left _ (List.mem_append_right _ h))) (by decide +kernel))
set_option maxRecDepth 20000 in
theorem gL_isFailing_X2_margin : GoodIn wsL_isFailing (wsV RL 72 RX2 yX2_margin wsX2_margin) := goodIn_app (goodIn_of _ (by decide +kernel)) ggL_isFailing_X2_margin
set_option maxRecDepth 20000 in
theorem ggL_isFailing_X2_command : GoodIn wsL_isFailing wsX2_command := goodIn_ca (goodIn_r _ [116, 22, 117, 118, 5, 119, 13, 14, 15, 16, 17, 120, 89, 90, 38, 91, 49, 50, 85, 86, 73, 87, 186, 187, 188, 189, 190, 191, 192, 193, 194, 195, 196, 197] (by decide +kernel) (by decide +kernel)) (goodIn_sub (fun _ h => List.mem_cons_of_mem _ (List.mem_append_left _ (List.mem_append_right _ h))) (by decide +kernel))
set_option maxRecDepth 20000 in
theorem gL_isFailing_X2_command : GoodIn wsL_isFailing (wsV RL 48 RX2 yX2_command wsX2_command) := goodIn_app (goodIn_of _ (by decide +kernel)) ggL_isFailing_X2_command
set_option maxRecDepth 20000 in
theorem ggL_isFailing_L_set : GoodIn wsL_isFailing wsL_set := goodIn_ca (goodIn_ca (goodIn_r _ [124, 125, 126, 127, 1, 128, 129, 130, 5, 131, 29, 132, 10, 11, 12, 13, 14, 15, 16, 17, 133, 134, 135, 136, 137, 22, 138, 139, 140, 141, 142, 143, 117, 118, 119, 144, 145, 146, 147, 148, 149, 150, 151, 152, 153, 154, 23, 51, 52, 53, 38, 54, 48, 47, 155, 156, 157, 158, 159, 160, 161, 162, 163, 164, 165, 166, 167, 168, 55, 56, 57, 58, 46, 40, 59, 60, 61, 62, 63, 45, 64, 65, 66, 67, 68, 69, 33, 70, 31, 32, 34, 71, 72, 73, 74, 75, 76, 77, 78, 79, 80, 81, 82, 83, 84, 50, 85, 86, 87, 88, 89, 90, 91, 49, 92, 93, 94, 95, 96, 97, 98, 99, 100, 101, 102, 103, 104, 105, 106, 107, 169, 170, 171, 172, 30, 112, 173, 186, 187, 188, 189, 190, 198, 199, 200, 201, 202, 203, 204, 205, 191, 192, 193, 194, 195, 196, 197] (by decide +kernel) (by decide +kernel)) (goodIn_sub (fun _ h => List.mem_cons_of_mem _ (List.mem_append_left _ (List.mem_append_right _ h))) (by decide +kernel))) (goodIn_sub (fun _ h => List.mem_cons_of_mem _ (List.mem_append_right _ h)) (by decide +kernel))
set_option maxRecDepth 20000 in
theorem gL_isFailing_L_set : GoodIn wsL_isFailing (va_wsS RL 100 yL_set wsL_set) := goodIn_app (goodIn_of _ (by decide +kernel)) ggL_isFailing_L_set
set_option maxRecDepth 20000 in
theorem ggL_isFailing_L_running : GoodIn wsL_isFailing wsL_running := goodIn_r _ [176] (by decide +kernel) (by decide +kernel)
set_option maxRecDepth 20000 in
theorem gL_isFailing_L_running : GoodIn wsL_isFailing (va_wsS RL 114 yL_running wsL_running) := goodIn_app (goodIn_of _ (by decide +kernel)) ggL_isFailing_L_running
set_option maxRecDepth 20000 in
theorem ggL_isFailing_X2_speed : GoodIn wsL_isFailing wsX2_speed := goodIn_ca (goodIn_r _ [180, 22, 181, 117, 118, 5, 119, 13, 14, 15, 16, 17, 186, 187, 188, 189, 190, 191, 192, 193, 194, 195, 196, 197] (by decide +kernel) (by decide +kernel)) (goodIn_sub (fun _ h => List.mem_cons_of_mem _ (List.mem_append_left _ (List.mem_append_right _ h))) (by decide +kernel))
set_option maxRecDepth 20000 in
theorem gL_isFailing_X2_speed : GoodIn wsL_isFailing (wsV RL 51 RX2 yX2_speed wsX2_speed) := goodIn_app (goodIn_of _ (by decide +kernel)) ggL_isFailing_X2_speed
set_option maxRecDepth 20000 in
theorem ggL_isFailing_X2_expected : GoodIn wsL_isFailing wsX2_expected := goodIn_ca (goodIn_r _ [185, 7, 8, 5, 9, 10, 11, 12, 13, 14, 15, 16, 17, 24, 25, 26, 27, 28, 22, 29, 30, 31, 32, 33, 34, 35, 36, 37, 38, 39, 40, 41, 42, 43, 44, 45, 46, 47, 48, 49, 50, 51, 52, 53, 54, 55, 56, 57, 58, 59, 60, 61, 62, 63, 64, 65, 66, 67, 68, 69, 70, 71, 72, 73, 74, 75, 76, 77, 78, 79, 80, 81, 82, 83, 84, 85, 86, 87, 88, 89, 90, 91, 92, 93, 94, 95, 96, 97, 98, 99, 100, 101, 102, 103, 104, 105, 106, 107, 186, 187, 188, 189, 190, 191, 192, 193, 194, 195, 196, 197, 198, 199, 200, 201, 202, 203, 204, 205] (by decide +kernel) (by decide +kernel)) (goodIn_sub (fun _ h => List.mem_cons_of_mem _ (List.mem_append_left _ (List.mem_append_right _ h))) (by decide +kernel))
set_option maxRecDepth 20000 in
theorem gL_isFailing_X2_expected : GoodIn wsL_isFailing (wsV RL 66 RX2 yX2_expected wsX2_expected) := goodIn_app (goodIn_of _ (by decide +kernel)) ggL_isFailing_X2_expected
theorem dL_isFailing_0 : decode cL_isFailing 0 = .ok (.aload 4, 2) := by decide +kernel
theorem dL_isFailing_2 : decode cL_isFailing 2 = .ok (.iconst 5, 1) := by decide +kernel
theorem dL_isFailing_3 : decode cL_isFailing 3 = .ok (.iaload, 1) := by decide +kernel
theorem dL_isFailing_4 : decode cL_isFailing 4 = .ok (.iload_n 1, 1) := by decide +kernel
theorem dL_isFailing_5 : decode cL_isFailing 5 = .ok (.ishr, 1) := by decide +kernel
theorem dL_isFailing_6 : decode cL_isFailing 6 = .ok (.iconst 1, 1) := by decide +kernel
theorem dL_isFailing_7 : decode cL_isFailing 7 = .ok (.iand, 1) := by decide +kernel
theorem dL_isFailing_8 : decode cL_isFailing 8 = .ok (.ifCond .ne 7, 3) := by decide +kernel
theorem dL_isFailing_11 : decode cL_isFailing 11 = .ok (.iconst 1, 1) := by decide +kernel
theorem dL_isFailing_12 : decode cL_isFailing 12 = .ok (.goto 4, 3) := by decide +kernel
theorem dL_isFailing_15 : decode cL_isFailing 15 = .ok (.iconst 0, 1) := by decide +kernel
theorem dL_isFailing_16 : decode cL_isFailing 16 = .ok (.istore 5, 2) := by decide +kernel
theorem dL_isFailing_18 : decode cL_isFailing 18 = .ok (.aload_n 0, 1) := by decide +kernel
theorem dL_isFailing_19 : decode cL_isFailing 19 = .ok (.iload_n 2, 1) := by decide +kernel
theorem dL_isFailing_20 : decode cL_isFailing 20 = .ok (.iload_n 3, 1) := by decide +kernel
theorem dL_isFailing_21 : decode cL_isFailing 21 = .ok (.invokevirtual 69, 3) := by decide +kernel
theorem dL_isFailing_24 : decode cL_isFailing 24 = .ok (.istore 6, 2) := by decide +kernel
theorem dL_isFailing_26 : decode cL_isFailing 26 = .ok (.aload_n 0, 1) := by decide +kernel
theorem dL_isFailing_27 : decode cL_isFailing 27 = .ok (.iload_n 2, 1) := by decide +kernel
theorem dL_isFailing_28 : decode cL_isFailing 28 = .ok (.iload_n 3, 1) := by decide +kernel
theorem dL_isFailing_29 : decode cL_isFailing 29 = .ok (.invokevirtual 72, 3) := by decide +kernel
theorem dL_isFailing_32 : decode cL_isFailing 32 = .ok (.istore 7, 2) := by decide +kernel
theorem dL_isFailing_34 : decode cL_isFailing 34 = .ok (.aload_n 0, 1) := by decide +kernel
theorem dL_isFailing_35 : decode cL_isFailing 35 = .ok (.iload_n 1, 1) := by decide +kernel
theorem dL_isFailing_36 : decode cL_isFailing 36 = .ok (.invokevirtual 48, 3) := by decide +kernel
theorem dL_isFailing_39 : decode cL_isFailing 39 = .ok (.istore 8, 2) := by decide +kernel
theorem dL_isFailing_41 : decode cL_isFailing 41 = .ok (.aload_n 0, 1) := by decide +kernel
