theorem d_La_law_666 : decode b_La_law 666 = .ok (.ireturn, 1) := by decide +kernel
theorem d_La_law_667 : decode b_La_law 667 = .ok (.iload 5, 2) := by decide +kernel
theorem d_La_law_669 : decode b_La_law 669 = .ok (.ifCond .ne 15, 3) := by decide +kernel
theorem d_La_law_672 : decode b_La_law 672 = .ok (.aload_n 3, 1) := by decide +kernel
theorem d_La_law_673 : decode b_La_law 673 = .ok (.iconst 0, 1) := by decide +kernel
theorem d_La_law_674 : decode b_La_law 674 = .ok (.laload, 1) := by decide +kernel
theorem d_La_law_675 : decode b_La_law 675 = .ok (.iload 6, 2) := by decide +kernel
theorem d_La_law_677 : decode b_La_law 677 = .ok (.i2l, 1) := by decide +kernel
theorem d_La_law_678 : decode b_La_law 678 = .ok (.lcmp, 1) := by decide +kernel
theorem d_La_law_679 : decode b_La_law 679 = .ok (.ifCond .eq 5, 3) := by decide +kernel
theorem d_La_law_682 : decode b_La_law 682 = .ok (.iconst 0, 1) := by decide +kernel
theorem d_La_law_683 : decode b_La_law 683 = .ok (.ireturn, 1) := by decide +kernel
theorem d_La_law_684 : decode b_La_law 684 = .ok (.goto 115, 3) := by decide +kernel
theorem d_La_law_687 : decode b_La_law 687 = .ok (.aload_n 1, 1) := by decide +kernel
theorem d_La_law_688 : decode b_La_law 688 = .ok (.aload_n 0, 1) := by decide +kernel
theorem d_La_law_689 : decode b_La_law 689 = .ok (.iload 4, 2) := by decide +kernel
theorem d_La_law_691 : decode b_La_law 691 = .ok (.iconst 1, 1) := by decide +kernel
theorem d_La_law_692 : decode b_La_law 692 = .ok (.iadd, 1) := by decide +kernel
theorem d_La_law_693 : decode b_La_law 693 = .ok (.iaload, 1) := by decide +kernel
theorem d_La_law_694 : decode b_La_law 694 = .ok (.aload_n 3, 1) := by decide +kernel
theorem d_La_law_695 : decode b_La_law 695 = .ok (.invokestatic 98, 3) := by decide +kernel
theorem d_La_law_698 : decode b_La_law 698 = .ok (.istore 5, 2) := by decide +kernel
theorem d_La_law_700 : decode b_La_law 700 = .ok (.aload_n 2, 1) := by decide +kernel
theorem d_La_law_701 : decode b_La_law 701 = .ok (.aload_n 0, 1) := by decide +kernel
theorem d_La_law_702 : decode b_La_law 702 = .ok (.iload 4, 2) := by decide +kernel
theorem d_La_law_704 : decode b_La_law 704 = .ok (.iconst 1, 1) := by decide +kernel
theorem d_La_law_705 : decode b_La_law 705 = .ok (.iadd, 1) := by decide +kernel
theorem d_La_law_706 : decode b_La_law 706 = .ok (.iaload, 1) := by decide +kernel
theorem d_La_law_707 : decode b_La_law 707 = .ok (.invokevirtual 100, 3) := by decide +kernel
theorem d_La_law_710 : decode b_La_law 710 = .ok (.istore 6, 2) := by decide +kernel
theorem d_La_law_712 : decode b_La_law 712 = .ok (.aload_n 2, 1) := by decide +kernel
theorem d_La_law_713 : decode b_La_law 713 = .ok (.invokevirtual 63, 3) := by decide +kernel
theorem d_La_law_716 : decode b_La_law 716 = .ok (.iload 5, 2) := by decide +kernel
theorem d_La_law_718 : decode b_La_law 718 = .ok (.if_icmp .eq 5, 3) := by decide +kernel
theorem d_La_law_721 : decode b_La_law 721 = .ok (.iconst 0, 1) := by decide +kernel
theorem d_La_law_722 : decode b_La_law 722 = .ok (.ireturn, 1) := by decide +kernel
theorem d_La_law_723 : decode b_La_law 723 = .ok (.iload 5, 2) := by decide +kernel
theorem d_La_law_725 : decode b_La_law 725 = .ok (.ifCond .ne 15, 3) := by decide +kernel
theorem d_La_law_728 : decode b_La_law 728 = .ok (.aload_n 3, 1) := by decide +kernel
theorem d_La_law_729 : decode b_La_law 729 = .ok (.iconst 0, 1) := by decide +kernel
theorem d_La_law_730 : decode b_La_law 730 = .ok (.laload, 1) := by decide +kernel
theorem d_La_law_731 : decode b_La_law 731 = .ok (.iload 6, 2) := by decide +kernel
theorem d_La_law_733 : decode b_La_law 733 = .ok (.i2l, 1) := by decide +kernel
theorem d_La_law_734 : decode b_La_law 734 = .ok (.lcmp, 1) := by decide +kernel
theorem d_La_law_735 : decode b_La_law 735 = .ok (.ifCond .eq 5, 3) := by decide +kernel
theorem d_La_law_738 : decode b_La_law 738 = .ok (.iconst 0, 1) := by decide +kernel
theorem d_La_law_739 : decode b_La_law 739 = .ok (.ireturn, 1) := by decide +kernel
theorem d_La_law_740 : decode b_La_law 740 = .ok (.goto 59, 3) := by decide +kernel
theorem d_La_law_743 : decode b_La_law 743 = .ok (.aload_n 1, 1) := by decide +kernel
theorem d_La_law_744 : decode b_La_law 744 = .ok (.aload_n 0, 1) := by decide +kernel
theorem d_La_law_745 : decode b_La_law 745 = .ok (.iload 4, 2) := by decide +kernel
theorem d_La_law_747 : decode b_La_law 747 = .ok (.iconst 1, 1) := by decide +kernel
theorem d_La_law_748 : decode b_La_law 748 = .ok (.iadd, 1) := by decide +kernel
theorem d_La_law_749 : decode b_La_law 749 = .ok (.iaload, 1) := by decide +kernel
theorem d_La_law_750 : decode b_La_law 750 = .ok (.aload_n 3, 1) := by decide +kernel
theorem d_La_law_751 : decode b_La_law 751 = .ok (.invokestatic 101, 3) := by decide +kernel
theorem d_La_law_754 : decode b_La_law 754 = .ok (.istore 5, 2) := by decide +kernel
theorem d_La_law_756 : decode b_La_law 756 = .ok (.aload_n 2, 1) := by decide +kernel
theorem d_La_law_757 : decode b_La_law 757 = .ok (.aload_n 0, 1) := by decide +kernel
theorem d_La_law_758 : decode b_La_law 758 = .ok (.iload 4, 2) := by decide +kernel
theorem d_La_law_760 : decode b_La_law 760 = .ok (.iconst 1, 1) := by decide +kernel
theorem d_La_law_761 : decode b_La_law 761 = .ok (.iadd, 1) := by decide +kernel
theorem d_La_law_762 : decode b_La_law 762 = .ok (.iaload, 1) := by decide +kernel
theorem d_La_law_763 : decode b_La_law 763 = .ok (.invokevirtual 103, 3) := by decide +kernel
theorem d_La_law_766 : decode b_La_law 766 = .ok (.istore 6, 2) := by decide +kernel
theorem d_La_law_768 : decode b_La_law 768 = .ok (.aload_n 2, 1) := by decide +kernel
theorem d_La_law_769 : decode b_La_law 769 = .ok (.invokevirtual 63, 3) := by decide +kernel
theorem d_La_law_772 : decode b_La_law 772 = .ok (.iload 5, 2) := by decide +kernel
theorem d_La_law_774 : decode b_La_law 774 = .ok (.if_icmp .eq 5, 3) := by decide +kernel
theorem d_La_law_777 : decode b_La_law 777 = .ok (.iconst 0, 1) := by decide +kernel
theorem d_La_law_778 : decode b_La_law 778 = .ok (.ireturn, 1) := by decide +kernel
theorem d_La_law_779 : decode b_La_law 779 = .ok (.iload 5, 2) := by decide +kernel
theorem d_La_law_781 : decode b_La_law 781 = .ok (.ifCond .ne 15, 3) := by decide +kernel
theorem d_La_law_784 : decode b_La_law 784 = .ok (.aload_n 3, 1) := by decide +kernel
theorem d_La_law_785 : decode b_La_law 785 = .ok (.iconst 0, 1) := by decide +kernel
theorem d_La_law_786 : decode b_La_law 786 = .ok (.laload, 1) := by decide +kernel
theorem d_La_law_787 : decode b_La_law 787 = .ok (.iload 6, 2) := by decide +kernel
theorem d_La_law_789 : decode b_La_law 789 = .ok (.i2l, 1) := by decide +kernel
theorem d_La_law_790 : decode b_La_law 790 = .ok (.lcmp, 1) := by decide +kernel
theorem d_La_law_791 : decode b_La_law 791 = .ok (.ifCond .eq 5, 3) := by decide +kernel
