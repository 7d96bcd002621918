theorem d_Law_law_601 : decode b_Law_law 601 = .ok (.iaload, 1) := by decide +kernel
theorem d_Law_law_602 : decode b_Law_law 602 = .ok (.aload_n 0, 1) := by decide +kernel
theorem d_Law_law_603 : decode b_Law_law 603 = .ok (.iload 4, 2) := by decide +kernel
theorem d_Law_law_605 : decode b_Law_law 605 = .ok (.iconst 2, 1) := by decide +kernel
theorem d_Law_law_606 : decode b_Law_law 606 = .ok (.iadd, 1) := by decide +kernel
theorem d_Law_law_607 : decode b_Law_law 607 = .ok (.iaload, 1) := by decide +kernel
theorem d_Law_law_608 : decode b_Law_law 608 = .ok (.invokevirtual 83, 3) := by decide +kernel
theorem d_Law_law_611 : decode b_Law_law 611 = .ok (.aload_n 2, 1) := by decide +kernel
theorem d_Law_law_612 : decode b_Law_law 612 = .ok (.invokevirtual 65, 3) := by decide +kernel
theorem d_Law_law_615 : decode b_Law_law 615 = .ok (.iload 5, 2) := by decide +kernel
theorem d_Law_law_617 : decode b_Law_law 617 = .ok (.if_icmp .eq 5, 3) := by decide +kernel
theorem d_Law_law_620 : decode b_Law_law 620 = .ok (.iconst 0, 1) := by decide +kernel
theorem d_Law_law_621 : decode b_Law_law 621 = .ok (.ireturn, 1) := by decide +kernel
theorem d_Law_law_622 : decode b_Law_law 622 = .ok (.goto 492, 3) := by decide +kernel
theorem d_Law_law_625 : decode b_Law_law 625 = .ok (.aload_n 1, 1) := by decide +kernel
theorem d_Law_law_626 : decode b_Law_law 626 = .ok (.invokevirtual 84, 3) := by decide +kernel
theorem d_Law_law_629 : decode b_Law_law 629 = .ok (.aload_n 2, 1) := by decide +kernel
theorem d_Law_law_630 : decode b_Law_law 630 = .ok (.invokevirtual 87, 3) := by decide +kernel
theorem d_Law_law_633 : decode b_Law_law 633 = .ok (.if_icmp .eq 481, 3) := by decide +kernel
theorem d_Law_law_636 : decode b_Law_law 636 = .ok (.iconst 0, 1) := by decide +kernel
theorem d_Law_law_637 : decode b_Law_law 637 = .ok (.ireturn, 1) := by decide +kernel
theorem d_Law_law_638 : decode b_Law_law 638 = .ok (.aload_n 1, 1) := by decide +kernel
theorem d_Law_law_639 : decode b_Law_law 639 = .ok (.aload_n 3, 1) := by decide +kernel
theorem d_Law_law_640 : decode b_Law_law 640 = .ok (.invokestatic 88, 3) := by decide +kernel
theorem d_Law_law_643 : decode b_Law_law 643 = .ok (.istore 5, 2) := by decide +kernel
theorem d_Law_law_645 : decode b_Law_law 645 = .ok (.aload_n 2, 1) := by decide +kernel
theorem d_Law_law_646 : decode b_Law_law 646 = .ok (.invokevirtual 90, 3) := by decide +kernel
theorem d_Law_law_649 : decode b_Law_law 649 = .ok (.istore 6, 2) := by decide +kernel
theorem d_Law_law_651 : decode b_Law_law 651 = .ok (.aload_n 2, 1) := by decide +kernel
theorem d_Law_law_652 : decode b_Law_law 652 = .ok (.invokevirtual 65, 3) := by decide +kernel
theorem d_Law_law_655 : decode b_Law_law 655 = .ok (.iload 5, 2) := by decide +kernel
theorem d_Law_law_657 : decode b_Law_law 657 = .ok (.if_icmp .eq 5, 3) := by decide +kernel
theorem d_Law_law_660 : decode b_Law_law 660 = .ok (.iconst 0, 1) := by decide +kernel
theorem d_Law_law_661 : decode b_Law_law 661 = .ok (.ireturn, 1) := by decide +kernel
theorem d_Law_law_662 : decode b_Law_law 662 = .ok (.iload 5, 2) := by decide +kernel
theorem d_Law_law_664 : decode b_Law_law 664 = .ok (.ifCond .ne 15, 3) := by decide +kernel
theorem d_Law_law_667 : decode b_Law_law 667 = .ok (.aload_n 3, 1) := by decide +kernel
theorem d_Law_law_668 : decode b_Law_law 668 = .ok (.iconst 0, 1) := by decide +kernel
theorem d_Law_law_669 : decode b_Law_law 669 = .ok (.laload, 1) := by decide +kernel
theorem d_Law_law_670 : decode b_Law_law 670 = .ok (.iload 6, 2) := by decide +kernel
theorem d_Law_law_672 : decode b_Law_law 672 = .ok (.i2l, 1) := by decide +kernel
theorem d_Law_law_673 : decode b_Law_law 673 = .ok (.lcmp, 1) := by decide +kernel
theorem d_Law_law_674 : decode b_Law_law 674 = .ok (.ifCond .eq 5, 3) := by decide +kernel
theorem d_Law_law_677 : decode b_Law_law 677 = .ok (.iconst 0, 1) := by decide +kernel
theorem d_Law_law_678 : decode b_Law_law 678 = .ok (.ireturn, 1) := by decide +kernel
theorem d_Law_law_679 : decode b_Law_law 679 = .ok (.goto 435, 3) := by decide +kernel
theorem d_Law_law_682 : decode b_Law_law 682 = .ok (.aload_n 1, 1) := by decide +kernel
theorem d_Law_law_683 : decode b_Law_law 683 = .ok (.invokevirtual 91, 3) := by decide +kernel
theorem d_Law_law_686 : decode b_Law_law 686 = .ok (.aload_n 2, 1) := by decide +kernel
theorem d_Law_law_687 : decode b_Law_law 687 = .ok (.invokevirtual 94, 3) := by decide +kernel
theorem d_Law_law_690 : decode b_Law_law 690 = .ok (.if_icmp .eq 424, 3) := by decide +kernel
theorem d_Law_law_693 : decode b_Law_law 693 = .ok (.iconst 0, 1) := by decide +kernel
theorem d_Law_law_694 : decode b_Law_law 694 = .ok (.ireturn, 1) := by decide +kernel
theorem d_Law_law_695 : decode b_Law_law 695 = .ok (.aload_n 1, 1) := by decide +kernel
theorem d_Law_law_696 : decode b_Law_law 696 = .ok (.invokevirtual 95, 3) := by decide +kernel
theorem d_Law_law_699 : decode b_Law_law 699 = .ok (.aload_n 2, 1) := by decide +kernel
theorem d_Law_law_700 : decode b_Law_law 700 = .ok (.invokevirtual 99, 3) := by decide +kernel
theorem d_Law_law_703 : decode b_Law_law 703 = .ok (.if_icmp .eq 411, 3) := by decide +kernel
theorem d_Law_law_706 : decode b_Law_law 706 = .ok (.iconst 0, 1) := by decide +kernel
theorem d_Law_law_707 : decode b_Law_law 707 = .ok (.ireturn, 1) := by decide +kernel
theorem d_Law_law_708 : decode b_Law_law 708 = .ok (.aload_n 1, 1) := by decide +kernel
theorem d_Law_law_709 : decode b_Law_law 709 = .ok (.aload_n 3, 1) := by decide +kernel
theorem d_Law_law_710 : decode b_Law_law 710 = .ok (.invokestatic 100, 3) := by decide +kernel
theorem d_Law_law_713 : decode b_Law_law 713 = .ok (.istore 5, 2) := by decide +kernel
theorem d_Law_law_715 : decode b_Law_law 715 = .ok (.aload_n 2, 1) := by decide +kernel
theorem d_Law_law_716 : decode b_Law_law 716 = .ok (.invokevirtual 102, 3) := by decide +kernel
theorem d_Law_law_719 : decode b_Law_law 719 = .ok (.istore 6, 2) := by decide +kernel
theorem d_Law_law_721 : decode b_Law_law 721 = .ok (.aload_n 2, 1) := by decide +kernel
theorem d_Law_law_722 : decode b_Law_law 722 = .ok (.invokevirtual 65, 3) := by decide +kernel
theorem d_Law_law_725 : decode b_Law_law 725 = .ok (.iload 5, 2) := by decide +kernel
theorem d_Law_law_727 : decode b_Law_law 727 = .ok (.if_icmp .eq 5, 3) := by decide +kernel
theorem d_Law_law_730 : decode b_Law_law 730 = .ok (.iconst 0, 1) := by decide +kernel
theorem d_Law_law_731 : decode b_Law_law 731 = .ok (.ireturn, 1) := by decide +kernel
theorem d_Law_law_732 : decode b_Law_law 732 = .ok (.iload 5, 2) := by decide +kernel
theorem d_Law_law_734 : decode b_Law_law 734 = .ok (.ifCond .ne 15, 3) := by decide +kernel
theorem d_Law_law_737 : decode b_Law_law 737 = .ok (.aload_n 3, 1) := by decide +kernel
theorem d_Law_law_738 : decode b_Law_law 738 = .ok (.iconst 0, 1) := by decide +kernel
theorem d_Law_law_739 : decode b_Law_law 739 = .ok (.laload, 1) := by decide +kernel
theorem d_Law_law_740 : decode b_Law_law 740 = .ok (.iload 6, 2) := by decide +kernel
theorem d_Law_law_742 : decode b_Law_law 742 = .ok (.i2l, 1) := by decide +kernel
theorem d_Law_law_743 : decode b_Law_law 743 = .ok (.lcmp, 1) := by decide +kernel
theorem d_Law_law_744 : decode b_Law_law 744 = .ok (.ifCond .eq 5, 3) := by decide +kernel
theorem d_Law_law_747 : decode b_Law_law 747 = .ok (.iconst 0, 1) := by decide +kernel
theorem d_Law_law_748 : decode b_Law_law 748 = .ok (.ireturn, 1) := by decide +kernel
theorem d_Law_law_749 : decode b_Law_law 749 = .ok (.goto 365, 3) := by decide +kernel
theorem d_Law_law_752 : decode b_Law_law 752 = .ok (.aload_n 1, 1) := by decide +kernel
theorem d_Law_law_753 : decode b_Law_law 753 = .ok (.invokevirtual 103, 3) := by decide +kernel
theorem d_Law_law_756 : decode b_Law_law 756 = .ok (.aload_n 2, 1) := by decide +kernel
theorem d_Law_law_757 : decode b_Law_law 757 = .ok (.invokevirtual 106, 3) := by decide +kernel
theorem d_Law_law_760 : decode b_Law_law 760 = .ok (.if_icmp .eq 354, 3) := by decide +kernel
theorem d_Law_law_763 : decode b_Law_law 763 = .ok (.iconst 0, 1) := by decide +kernel
theorem d_Law_law_764 : decode b_Law_law 764 = .ok (.ireturn, 1) := by decide +kernel
theorem d_Law_law_765 : decode b_Law_law 765 = .ok (.aload_n 1, 1) := by decide +kernel
theorem d_Law_law_766 : decode b_Law_law 766 = .ok (.aload_n 3, 1) := by decide +kernel
theorem d_Law_law_767 : decode b_Law_law 767 = .ok (.invokestatic 107, 3) := by decide +kernel
theorem d_Law_law_770 : decode b_Law_law 770 = .ok (.istore 5, 2) := by decide +kernel
theorem d_Law_law_772 : decode b_Law_law 772 = .ok (.aload_n 2, 1) := by decide +kernel
theorem d_Law_law_773 : decode b_Law_law 773 = .ok (.invokevirtual 109, 3) := by decide +kernel
theorem d_Law_law_776 : decode b_Law_law 776 = .ok (.istore 6, 2) := by decide +kernel
theorem d_Law_law_778 : decode b_Law_law 778 = .ok (.aload_n 2, 1) := by decide +kernel
