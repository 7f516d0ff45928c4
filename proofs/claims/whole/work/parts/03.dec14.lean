theorem d_La_law_536 : decode b_La_law 536 = .ok (.iconst 1, 1) := by decide +kernel
theorem d_La_law_537 : decode b_La_law 537 = .ok (.iadd, 1) := by decide +kernel
theorem d_La_law_538 : decode b_La_law 538 = .ok (.iaload, 1) := by decide +kernel
theorem d_La_law_539 : decode b_La_law 539 = .ok (.invokevirtual 91, 3) := by decide +kernel
theorem d_La_law_542 : decode b_La_law 542 = .ok (.istore 6, 2) := by decide +kernel
theorem d_La_law_544 : decode b_La_law 544 = .ok (.aload_n 2, 1) := by decide +kernel
theorem d_La_law_545 : decode b_La_law 545 = .ok (.invokevirtual 63, 3) := by decide +kernel
theorem d_La_law_548 : decode b_La_law 548 = .ok (.iload 5, 2) := by decide +kernel
theorem d_La_law_550 : decode b_La_law 550 = .ok (.if_icmp .eq 5, 3) := by decide +kernel
theorem d_La_law_553 : decode b_La_law 553 = .ok (.iconst 0, 1) := by decide +kernel
theorem d_La_law_554 : decode b_La_law 554 = .ok (.ireturn, 1) := by decide +kernel
theorem d_La_law_555 : decode b_La_law 555 = .ok (.iload 5, 2) := by decide +kernel
theorem d_La_law_557 : decode b_La_law 557 = .ok (.ifCond .ne 15, 3) := by decide +kernel
theorem d_La_law_560 : decode b_La_law 560 = .ok (.aload_n 3, 1) := by decide +kernel
theorem d_La_law_561 : decode b_La_law 561 = .ok (.iconst 0, 1) := by decide +kernel
theorem d_La_law_562 : decode b_La_law 562 = .ok (.laload, 1) := by decide +kernel
theorem d_La_law_563 : decode b_La_law 563 = .ok (.iload 6, 2) := by decide +kernel
theorem d_La_law_565 : decode b_La_law 565 = .ok (.i2l, 1) := by decide +kernel
theorem d_La_law_566 : decode b_La_law 566 = .ok (.lcmp, 1) := by decide +kernel
theorem d_La_law_567 : decode b_La_law 567 = .ok (.ifCond .eq 5, 3) := by decide +kernel
theorem d_La_law_570 : decode b_La_law 570 = .ok (.iconst 0, 1) := by decide +kernel
theorem d_La_law_571 : decode b_La_law 571 = .ok (.ireturn, 1) := by decide +kernel
theorem d_La_law_572 : decode b_La_law 572 = .ok (.goto 227, 3) := by decide +kernel
theorem d_La_law_575 : decode b_La_law 575 = .ok (.aload_n 1, 1) := by decide +kernel
theorem d_La_law_576 : decode b_La_law 576 = .ok (.aload_n 0, 1) := by decide +kernel
theorem d_La_law_577 : decode b_La_law 577 = .ok (.iload 4, 2) := by decide +kernel
theorem d_La_law_579 : decode b_La_law 579 = .ok (.iconst 1, 1) := by decide +kernel
theorem d_La_law_580 : decode b_La_law 580 = .ok (.iadd, 1) := by decide +kernel
theorem d_La_law_581 : decode b_La_law 581 = .ok (.iaload, 1) := by decide +kernel
theorem d_La_law_582 : decode b_La_law 582 = .ok (.aload_n 3, 1) := by decide +kernel
theorem d_La_law_583 : decode b_La_law 583 = .ok (.invokestatic 92, 3) := by decide +kernel
theorem d_La_law_586 : decode b_La_law 586 = .ok (.istore 5, 2) := by decide +kernel
theorem d_La_law_588 : decode b_La_law 588 = .ok (.aload_n 2, 1) := by decide +kernel
theorem d_La_law_589 : decode b_La_law 589 = .ok (.aload_n 0, 1) := by decide +kernel
theorem d_La_law_590 : decode b_La_law 590 = .ok (.iload 4, 2) := by decide +kernel
theorem d_La_law_592 : decode b_La_law 592 = .ok (.iconst 1, 1) := by decide +kernel
theorem d_La_law_593 : decode b_La_law 593 = .ok (.iadd, 1) := by decide +kernel
theorem d_La_law_594 : decode b_La_law 594 = .ok (.iaload, 1) := by decide +kernel
theorem d_La_law_595 : decode b_La_law 595 = .ok (.invokevirtual 94, 3) := by decide +kernel
theorem d_La_law_598 : decode b_La_law 598 = .ok (.istore 6, 2) := by decide +kernel
theorem d_La_law_600 : decode b_La_law 600 = .ok (.aload_n 2, 1) := by decide +kernel
theorem d_La_law_601 : decode b_La_law 601 = .ok (.invokevirtual 63, 3) := by decide +kernel
theorem d_La_law_604 : decode b_La_law 604 = .ok (.iload 5, 2) := by decide +kernel
theorem d_La_law_606 : decode b_La_law 606 = .ok (.if_icmp .eq 5, 3) := by decide +kernel
theorem d_La_law_609 : decode b_La_law 609 = .ok (.iconst 0, 1) := by decide +kernel
theorem d_La_law_610 : decode b_La_law 610 = .ok (.ireturn, 1) := by decide +kernel
theorem d_La_law_611 : decode b_La_law 611 = .ok (.iload 5, 2) := by decide +kernel
theorem d_La_law_613 : decode b_La_law 613 = .ok (.ifCond .ne 15, 3) := by decide +kernel
theorem d_La_law_616 : decode b_La_law 616 = .ok (.aload_n 3, 1) := by decide +kernel
theorem d_La_law_617 : decode b_La_law 617 = .ok (.iconst 0, 1) := by decide +kernel
theorem d_La_law_618 : decode b_La_law 618 = .ok (.laload, 1) := by decide +kernel
theorem d_La_law_619 : decode b_La_law 619 = .ok (.iload 6, 2) := by decide +kernel
theorem d_La_law_621 : decode b_La_law 621 = .ok (.i2l, 1) := by decide +kernel
theorem d_La_law_622 : decode b_La_law 622 = .ok (.lcmp, 1) := by decide +kernel
theorem d_La_law_623 : decode b_La_law 623 = .ok (.ifCond .eq 5, 3) := by decide +kernel
theorem d_La_law_626 : decode b_La_law 626 = .ok (.iconst 0, 1) := by decide +kernel
theorem d_La_law_627 : decode b_La_law 627 = .ok (.ireturn, 1) := by decide +kernel
theorem d_La_law_628 : decode b_La_law 628 = .ok (.goto 171, 3) := by decide +kernel
theorem d_La_law_631 : decode b_La_law 631 = .ok (.aload_n 1, 1) := by decide +kernel
theorem d_La_law_632 : decode b_La_law 632 = .ok (.aload_n 0, 1) := by decide +kernel
theorem d_La_law_633 : decode b_La_law 633 = .ok (.iload 4, 2) := by decide +kernel
theorem d_La_law_635 : decode b_La_law 635 = .ok (.iconst 1, 1) := by decide +kernel
theorem d_La_law_636 : decode b_La_law 636 = .ok (.iadd, 1) := by decide +kernel
theorem d_La_law_637 : decode b_La_law 637 = .ok (.iaload, 1) := by decide +kernel
theorem d_La_law_638 : decode b_La_law 638 = .ok (.aload_n 3, 1) := by decide +kernel
theorem d_La_law_639 : decode b_La_law 639 = .ok (.invokestatic 95, 3) := by decide +kernel
theorem d_La_law_642 : decode b_La_law 642 = .ok (.istore 5, 2) := by decide +kernel
theorem d_La_law_644 : decode b_La_law 644 = .ok (.aload_n 2, 1) := by decide +kernel
theorem d_La_law_645 : decode b_La_law 645 = .ok (.aload_n 0, 1) := by decide +kernel
theorem d_La_law_646 : decode b_La_law 646 = .ok (.iload 4, 2) := by decide +kernel
theorem d_La_law_648 : decode b_La_law 648 = .ok (.iconst 1, 1) := by decide +kernel
theorem d_La_law_649 : decode b_La_law 649 = .ok (.iadd, 1) := by decide +kernel
theorem d_La_law_650 : decode b_La_law 650 = .ok (.iaload, 1) := by decide +kernel
theorem d_La_law_651 : decode b_La_law 651 = .ok (.invokevirtual 97, 3) := by decide +kernel
theorem d_La_law_654 : decode b_La_law 654 = .ok (.istore 6, 2) := by decide +kernel
theorem d_La_law_656 : decode b_La_law 656 = .ok (.aload_n 2, 1) := by decide +kernel
theorem d_La_law_657 : decode b_La_law 657 = .ok (.invokevirtual 63, 3) := by decide +kernel
theorem d_La_law_660 : decode b_La_law 660 = .ok (.iload 5, 2) := by decide +kernel
theorem d_La_law_662 : decode b_La_law 662 = .ok (.if_icmp .eq 5, 3) := by decide +kernel
theorem d_La_law_665 : decode b_La_law 665 = .ok (.iconst 0, 1) := by decide +kernel
