theorem dL_law_688 : decode cL_law 688 = .ok (.goto 4, 3) := by decide +kernel
theorem dL_law_691 : decode cL_law 691 = .ok (.iconst 0, 1) := by decide +kernel
theorem dL_law_692 : decode cL_law 692 = .ok (.if_icmp .ne 36, 3) := by decide +kernel
theorem dL_law_695 : decode cL_law 695 = .ok (.iload 12, 2) := by decide +kernel
theorem dL_law_697 : decode cL_law 697 = .ok (.ifCond .le 33, 3) := by decide +kernel
theorem dL_law_700 : decode cL_law 700 = .ok (.iload 12, 2) := by decide +kernel
theorem dL_law_702 : decode cL_law 702 = .ok (.iconst 1, 1) := by decide +kernel
theorem dL_law_703 : decode cL_law 703 = .ok (.if_icmp .ne 7, 3) := by decide +kernel
theorem dL_law_706 : decode cL_law 706 = .ok (.iconst 1, 1) := by decide +kernel
theorem dL_law_707 : decode cL_law 707 = .ok (.goto 4, 3) := by decide +kernel
theorem dL_law_710 : decode cL_law 710 = .ok (.iconst 0, 1) := by decide +kernel
theorem dL_law_711 : decode cL_law 711 = .ok (.aload_n 1, 1) := by decide +kernel
theorem dL_law_712 : decode cL_law 712 = .ok (.iconst 1, 1) := by decide +kernel
theorem dL_law_713 : decode cL_law 713 = .ok (.invokevirtual 26, 3) := by decide +kernel
theorem dL_law_716 : decode cL_law 716 = .ok (.iconst 2, 1) := by decide +kernel
theorem dL_law_717 : decode cL_law 717 = .ok (.if_icmp .ge 7, 3) := by decide +kernel
theorem dL_law_720 : decode cL_law 720 = .ok (.iconst 1, 1) := by decide +kernel
theorem dL_law_721 : decode cL_law 721 = .ok (.goto 4, 3) := by decide +kernel
theorem dL_law_724 : decode cL_law 724 = .ok (.iconst 0, 1) := by decide +kernel
theorem dL_law_725 : decode cL_law 725 = .ok (.if_icmp .eq 5, 3) := by decide +kernel
theorem dL_law_728 : decode cL_law 728 = .ok (.iconst 0, 1) := by decide +kernel
theorem dL_law_729 : decode cL_law 729 = .ok (.ireturn, 1) := by decide +kernel
theorem dL_law_730 : decode cL_law 730 = .ok (.iconst 4, 1) := by decide +kernel
theorem dL_law_731 : decode cL_law 731 = .ok (.newarray .int, 2) := by decide +kernel
theorem dL_law_733 : decode cL_law 733 = .ok (.astore 18, 2) := by decide +kernel
theorem dL_law_735 : decode cL_law 735 = .ok (.iload 17, 2) := by decide +kernel
theorem dL_law_737 : decode cL_law 737 = .ok (.newarray .int, 2) := by decide +kernel
theorem dL_law_739 : decode cL_law 739 = .ok (.astore 19, 2) := by decide +kernel
theorem dL_law_741 : decode cL_law 741 = .ok (.iload 17, 2) := by decide +kernel
theorem dL_law_743 : decode cL_law 743 = .ok (.newarray .int, 2) := by decide +kernel
theorem dL_law_745 : decode cL_law 745 = .ok (.astore 20, 2) := by decide +kernel
theorem dL_law_747 : decode cL_law 747 = .ok (.iconst 0, 1) := by decide +kernel
theorem dL_law_748 : decode cL_law 748 = .ok (.istore 21, 2) := by decide +kernel
theorem dL_law_750 : decode cL_law 750 = .ok (.iconst 0, 1) := by decide +kernel
theorem dL_law_751 : decode cL_law 751 = .ok (.istore 22, 2) := by decide +kernel
theorem dL_law_753 : decode cL_law 753 = .ok (.iconst 0, 1) := by decide +kernel
theorem dL_law_754 : decode cL_law 754 = .ok (.istore 23, 2) := by decide +kernel
theorem dL_law_756 : decode cL_law 756 = .ok (.iload 23, 2) := by decide +kernel
theorem dL_law_758 : decode cL_law 758 = .ok (.iload 17, 2) := by decide +kernel
theorem dL_law_760 : decode cL_law 760 = .ok (.if_icmp .ge 739, 3) := by decide +kernel
theorem dL_law_763 : decode cL_law 763 = .ok (.aload_n 1, 1) := by decide +kernel
theorem dL_law_764 : decode cL_law 764 = .ok (.iload 23, 2) := by decide +kernel
theorem dL_law_766 : decode cL_law 766 = .ok (.bipush 9, 2) := by decide +kernel
theorem dL_law_768 : decode cL_law 768 = .ok (.invokevirtual 30, 3) := by decide +kernel
theorem dL_law_771 : decode cL_law 771 = .ok (.istore 24, 2) := by decide +kernel
theorem dL_law_773 : decode cL_law 773 = .ok (.aload_n 1, 1) := by decide +kernel
theorem dL_law_774 : decode cL_law 774 = .ok (.iload 23, 2) := by decide +kernel
theorem dL_law_776 : decode cL_law 776 = .ok (.bipush 8, 2) := by decide +kernel
theorem dL_law_778 : decode cL_law 778 = .ok (.invokevirtual 30, 3) := by decide +kernel
theorem dL_law_781 : decode cL_law 781 = .ok (.istore 25, 2) := by decide +kernel
theorem dL_law_783 : decode cL_law 783 = .ok (.aload_n 1, 1) := by decide +kernel
theorem dL_law_784 : decode cL_law 784 = .ok (.iload 23, 2) := by decide +kernel
theorem dL_law_786 : decode cL_law 786 = .ok (.bipush 11, 2) := by decide +kernel
theorem dL_law_788 : decode cL_law 788 = .ok (.invokevirtual 30, 3) := by decide +kernel
theorem dL_law_791 : decode cL_law 791 = .ok (.istore 26, 2) := by decide +kernel
theorem dL_law_793 : decode cL_law 793 = .ok (.aload_n 1, 1) := by decide +kernel
theorem dL_law_794 : decode cL_law 794 = .ok (.iload 23, 2) := by decide +kernel
theorem dL_law_796 : decode cL_law 796 = .ok (.bipush 7, 2) := by decide +kernel
theorem dL_law_798 : decode cL_law 798 = .ok (.invokevirtual 30, 3) := by decide +kernel
theorem dL_law_801 : decode cL_law 801 = .ok (.istore 27, 2) := by decide +kernel
theorem dL_law_803 : decode cL_law 803 = .ok (.aload 18, 2) := by decide +kernel
theorem dL_law_805 : decode cL_law 805 = .ok (.iload 24, 2) := by decide +kernel
theorem dL_law_807 : decode cL_law 807 = .ok (.dup2, 1) := by decide +kernel
theorem dL_law_808 : decode cL_law 808 = .ok (.iaload, 1) := by decide +kernel
theorem dL_law_809 : decode cL_law 809 = .ok (.iconst 1, 1) := by decide +kernel
theorem dL_law_810 : decode cL_law 810 = .ok (.iadd, 1) := by decide +kernel
theorem dL_law_811 : decode cL_law 811 = .ok (.iastore, 1) := by decide +kernel
theorem dL_law_812 : decode cL_law 812 = .ok (.iload 24, 2) := by decide +kernel
theorem dL_law_814 : decode cL_law 814 = .ok (.ifCond .ne 7, 3) := by decide +kernel
theorem dL_law_817 : decode cL_law 817 = .ok (.iconst 1, 1) := by decide +kernel
theorem dL_law_818 : decode cL_law 818 = .ok (.goto 4, 3) := by decide +kernel
theorem dL_law_821 : decode cL_law 821 = .ok (.iconst 0, 1) := by decide +kernel
theorem dL_law_822 : decode cL_law 822 = .ok (.iload 25, 2) := by decide +kernel
theorem dL_law_824 : decode cL_law 824 = .ok (.ifCond .lt 7, 3) := by decide +kernel
theorem dL_law_827 : decode cL_law 827 = .ok (.iconst 1, 1) := by decide +kernel
theorem dL_law_828 : decode cL_law 828 = .ok (.goto 4, 3) := by decide +kernel
theorem dL_law_831 : decode cL_law 831 = .ok (.iconst 0, 1) := by decide +kernel
theorem dL_law_832 : decode cL_law 832 = .ok (.if_icmp .ne 125, 3) := by decide +kernel
theorem dL_law_835 : decode cL_law 835 = .ok (.iload 25, 2) := by decide +kernel
theorem dL_law_837 : decode cL_law 837 = .ok (.ifCond .lt 14, 3) := by decide +kernel
theorem dL_law_840 : decode cL_law 840 = .ok (.aload_n 1, 1) := by decide +kernel
theorem dL_law_841 : decode cL_law 841 = .ok (.iload 25, 2) := by decide +kernel
theorem dL_law_843 : decode cL_law 843 = .ok (.invokevirtual 33, 3) := by decide +kernel
theorem dL_law_846 : decode cL_law 846 = .ok (.iload 23, 2) := by decide +kernel
theorem dL_law_848 : decode cL_law 848 = .ok (.if_icmp .ne 109, 3) := by decide +kernel
theorem dL_law_851 : decode cL_law 851 = .ok (.iload 24, 2) := by decide +kernel
theorem dL_law_853 : decode cL_law 853 = .ok (.iconst 1, 1) := by decide +kernel
theorem dL_law_854 : decode cL_law 854 = .ok (.if_icmp .ne 7, 3) := by decide +kernel
theorem dL_law_857 : decode cL_law 857 = .ok (.iconst 1, 1) := by decide +kernel
theorem dL_law_858 : decode cL_law 858 = .ok (.goto 4, 3) := by decide +kernel
