theorem dL_law_531 : decode cL_law 531 = .ok (.iload 8, 2) := by decide +kernel
theorem dL_law_533 : decode cL_law 533 = .ok (.bipush 40, 2) := by decide +kernel
theorem dL_law_535 : decode cL_law 535 = .ok (.idiv, 1) := by decide +kernel
theorem dL_law_536 : decode cL_law 536 = .ok (.iload 8, 2) := by decide +kernel
theorem dL_law_538 : decode cL_law 538 = .ok (.iconst 2, 1) := by decide +kernel
theorem dL_law_539 : decode cL_law 539 = .ok (.irem, 1) := by decide +kernel
theorem dL_law_540 : decode cL_law 540 = .ok (.ifCond .ne 9, 3) := by decide +kernel
theorem dL_law_543 : decode cL_law 543 = .ok (.sipush 4001, 3) := by decide +kernel
theorem dL_law_546 : decode cL_law 546 = .ok (.goto 6, 3) := by decide +kernel
theorem dL_law_549 : decode cL_law 549 = .ok (.sipush 2000, 3) := by decide +kernel
theorem dL_law_552 : decode cL_law 552 = .ok (.irem, 1) := by decide +kernel
theorem dL_law_553 : decode cL_law 553 = .ok (.iadd, 1) := by decide +kernel
theorem dL_law_554 : decode cL_law 554 = .ok (.iastore, 1) := by decide +kernel
theorem dL_law_555 : decode cL_law 555 = .ok (.aload_n 1, 1) := by decide +kernel
theorem dL_law_556 : decode cL_law 556 = .ok (.aload 4, 2) := by decide +kernel
theorem dL_law_558 : decode cL_law 558 = .ok (.iconst 2, 1) := by decide +kernel
theorem dL_law_559 : decode cL_law 559 = .ok (.iaload, 1) := by decide +kernel
theorem dL_law_560 : decode cL_law 560 = .ok (.aload 4, 2) := by decide +kernel
theorem dL_law_562 : decode cL_law 562 = .ok (.iconst 3, 1) := by decide +kernel
theorem dL_law_563 : decode cL_law 563 = .ok (.iaload, 1) := by decide +kernel
theorem dL_law_564 : decode cL_law 564 = .ok (.invokestatic 107, 3) := by decide +kernel
theorem dL_law_567 : decode cL_law 567 = .ok (.ifCond .ne 7, 3) := by decide +kernel
theorem dL_law_570 : decode cL_law 570 = .ok (.iconst 1, 1) := by decide +kernel
theorem dL_law_571 : decode cL_law 571 = .ok (.goto 4, 3) := by decide +kernel
theorem dL_law_574 : decode cL_law 574 = .ok (.iconst 0, 1) := by decide +kernel
theorem dL_law_575 : decode cL_law 575 = .ok (.istore 5, 2) := by decide +kernel
theorem dL_law_577 : decode cL_law 577 = .ok (.goto 303, 3) := by decide +kernel
theorem dL_law_580 : decode cL_law 580 = .ok (.iload 9, 2) := by decide +kernel
theorem dL_law_582 : decode cL_law 582 = .ok (.bipush 10, 2) := by decide +kernel
theorem dL_law_584 : decode cL_law 584 = .ok (.if_icmp .ne 44, 3) := by decide +kernel
theorem dL_law_587 : decode cL_law 587 = .ok (.aload 4, 2) := by decide +kernel
theorem dL_law_589 : decode cL_law 589 = .ok (.iconst 4, 1) := by decide +kernel
theorem dL_law_590 : decode cL_law 590 = .ok (.iaload, 1) := by decide +kernel
theorem dL_law_591 : decode cL_law 591 = .ok (.istore 12, 2) := by decide +kernel
theorem dL_law_593 : decode cL_law 593 = .ok (.aload 4, 2) := by decide +kernel
theorem dL_law_595 : decode cL_law 595 = .ok (.iconst 4, 1) := by decide +kernel
theorem dL_law_596 : decode cL_law 596 = .ok (.iload 8, 2) := by decide +kernel
theorem dL_law_598 : decode cL_law 598 = .ok (.bipush 9, 2) := by decide +kernel
theorem dL_law_600 : decode cL_law 600 = .ok (.irem, 1) := by decide +kernel
theorem dL_law_601 : decode cL_law 601 = .ok (.iastore, 1) := by decide +kernel
theorem dL_law_602 : decode cL_law 602 = .ok (.aload_n 1, 1) := by decide +kernel
theorem dL_law_603 : decode cL_law 603 = .ok (.iconst 3, 1) := by decide +kernel
theorem dL_law_604 : decode cL_law 604 = .ok (.aload 4, 2) := by decide +kernel
theorem dL_law_606 : decode cL_law 606 = .ok (.iconst 4, 1) := by decide +kernel
theorem dL_law_607 : decode cL_law 607 = .ok (.iaload, 1) := by decide +kernel
theorem dL_law_608 : decode cL_law 608 = .ok (.iconst 0, 1) := by decide +kernel
theorem dL_law_609 : decode cL_law 609 = .ok (.iconst 0, 1) := by decide +kernel
theorem dL_law_610 : decode cL_law 610 = .ok (.invokestatic 100, 3) := by decide +kernel
theorem dL_law_613 : decode cL_law 613 = .ok (.iload 12, 2) := by decide +kernel
theorem dL_law_615 : decode cL_law 615 = .ok (.if_icmp .ne 7, 3) := by decide +kernel
theorem dL_law_618 : decode cL_law 618 = .ok (.iconst 1, 1) := by decide +kernel
theorem dL_law_619 : decode cL_law 619 = .ok (.goto 4, 3) := by decide +kernel
theorem dL_law_622 : decode cL_law 622 = .ok (.iconst 0, 1) := by decide +kernel
theorem dL_law_623 : decode cL_law 623 = .ok (.istore 5, 2) := by decide +kernel
theorem dL_law_625 : decode cL_law 625 = .ok (.goto 255, 3) := by decide +kernel
theorem dL_law_628 : decode cL_law 628 = .ok (.iload 9, 2) := by decide +kernel
theorem dL_law_630 : decode cL_law 630 = .ok (.bipush 14, 2) := by decide +kernel
theorem dL_law_632 : decode cL_law 632 = .ok (.if_icmp .ge 28, 3) := by decide +kernel
theorem dL_law_635 : decode cL_law 635 = .ok (.aload_n 1, 1) := by decide +kernel
theorem dL_law_636 : decode cL_law 636 = .ok (.iload 11, 2) := by decide +kernel
theorem dL_law_638 : decode cL_law 638 = .ok (.iload 10, 2) := by decide +kernel
theorem dL_law_640 : decode cL_law 640 = .ok (.iconst 1, 1) := by decide +kernel
theorem dL_law_641 : decode cL_law 641 = .ok (.iload 8, 2) := by decide +kernel
theorem dL_law_643 : decode cL_law 643 = .ok (.bipush 48, 2) := by decide +kernel
theorem dL_law_645 : decode cL_law 645 = .ok (.idiv, 1) := by decide +kernel
theorem dL_law_646 : decode cL_law 646 = .ok (.bipush 12, 2) := by decide +kernel
theorem dL_law_648 : decode cL_law 648 = .ok (.irem, 1) := by decide +kernel
theorem dL_law_649 : decode cL_law 649 = .ok (.iadd, 1) := by decide +kernel
theorem dL_law_650 : decode cL_law 650 = .ok (.aload 4, 2) := by decide +kernel
theorem dL_law_652 : decode cL_law 652 = .ok (.invokestatic 127, 3) := by decide +kernel
theorem dL_law_655 : decode cL_law 655 = .ok (.istore 5, 2) := by decide +kernel
theorem dL_law_657 : decode cL_law 657 = .ok (.goto 223, 3) := by decide +kernel
theorem dL_law_660 : decode cL_law 660 = .ok (.iload 9, 2) := by decide +kernel
theorem dL_law_662 : decode cL_law 662 = .ok (.bipush 16, 2) := by decide +kernel
theorem dL_law_664 : decode cL_law 664 = .ok (.if_icmp .ge 92, 3) := by decide +kernel
