theorem d_LW_law_695 : decode b_LW_law 695 = .ok (.iload 5, 2) := by decide +kernel
theorem d_LW_law_697 : decode b_LW_law 697 = .ok (.if_icmp .eq 5, 3) := by decide +kernel
theorem d_LW_law_700 : decode b_LW_law 700 = .ok (.iconst 0, 1) := by decide +kernel
theorem d_LW_law_701 : decode b_LW_law 701 = .ok (.ireturn, 1) := by decide +kernel
theorem d_LW_law_702 : decode b_LW_law 702 = .ok (.iload 5, 2) := by decide +kernel
theorem d_LW_law_704 : decode b_LW_law 704 = .ok (.ifCond .ne 15, 3) := by decide +kernel
theorem d_LW_law_707 : decode b_LW_law 707 = .ok (.aload_n 3, 1) := by decide +kernel
theorem d_LW_law_708 : decode b_LW_law 708 = .ok (.iconst 0, 1) := by decide +kernel
theorem d_LW_law_709 : decode b_LW_law 709 = .ok (.laload, 1) := by decide +kernel
theorem d_LW_law_710 : decode b_LW_law 710 = .ok (.iload 6, 2) := by decide +kernel
theorem d_LW_law_712 : decode b_LW_law 712 = .ok (.i2l, 1) := by decide +kernel
theorem d_LW_law_713 : decode b_LW_law 713 = .ok (.lcmp, 1) := by decide +kernel
theorem d_LW_law_714 : decode b_LW_law 714 = .ok (.ifCond .eq 5, 3) := by decide +kernel
theorem d_LW_law_717 : decode b_LW_law 717 = .ok (.iconst 0, 1) := by decide +kernel
theorem d_LW_law_718 : decode b_LW_law 718 = .ok (.ireturn, 1) := by decide +kernel
theorem d_LW_law_719 : decode b_LW_law 719 = .ok (.goto 122, 3) := by decide +kernel
theorem d_LW_law_722 : decode b_LW_law 722 = .ok (.aload_n 1, 1) := by decide +kernel
theorem d_LW_law_723 : decode b_LW_law 723 = .ok (.aload_n 3, 1) := by decide +kernel
theorem d_LW_law_724 : decode b_LW_law 724 = .ok (.invokestatic 101, 3) := by decide +kernel
theorem d_LW_law_727 : decode b_LW_law 727 = .ok (.istore 5, 2) := by decide +kernel
theorem d_LW_law_729 : decode b_LW_law 729 = .ok (.aload_n 2, 1) := by decide +kernel
theorem d_LW_law_730 : decode b_LW_law 730 = .ok (.invokevirtual 104, 3) := by decide +kernel
theorem d_LW_law_733 : decode b_LW_law 733 = .ok (.istore 6, 2) := by decide +kernel
theorem d_LW_law_735 : decode b_LW_law 735 = .ok (.aload_n 2, 1) := by decide +kernel
theorem d_LW_law_736 : decode b_LW_law 736 = .ok (.invokevirtual 60, 3) := by decide +kernel
theorem d_LW_law_739 : decode b_LW_law 739 = .ok (.iload 5, 2) := by decide +kernel
theorem d_LW_law_741 : decode b_LW_law 741 = .ok (.if_icmp .eq 5, 3) := by decide +kernel
theorem d_LW_law_744 : decode b_LW_law 744 = .ok (.iconst 0, 1) := by decide +kernel
theorem d_LW_law_745 : decode b_LW_law 745 = .ok (.ireturn, 1) := by decide +kernel
theorem d_LW_law_746 : decode b_LW_law 746 = .ok (.iload 5, 2) := by decide +kernel
theorem d_LW_law_748 : decode b_LW_law 748 = .ok (.ifCond .ne 15, 3) := by decide +kernel
theorem d_LW_law_751 : decode b_LW_law 751 = .ok (.aload_n 3, 1) := by decide +kernel
theorem d_LW_law_752 : decode b_LW_law 752 = .ok (.iconst 0, 1) := by decide +kernel
theorem d_LW_law_753 : decode b_LW_law 753 = .ok (.laload, 1) := by decide +kernel
theorem d_LW_law_754 : decode b_LW_law 754 = .ok (.iload 6, 2) := by decide +kernel
theorem d_LW_law_756 : decode b_LW_law 756 = .ok (.i2l, 1) := by decide +kernel
theorem d_LW_law_757 : decode b_LW_law 757 = .ok (.lcmp, 1) := by decide +kernel
theorem d_LW_law_758 : decode b_LW_law 758 = .ok (.ifCond .eq 5, 3) := by decide +kernel
theorem d_LW_law_761 : decode b_LW_law 761 = .ok (.iconst 0, 1) := by decide +kernel
theorem d_LW_law_762 : decode b_LW_law 762 = .ok (.ireturn, 1) := by decide +kernel
theorem d_LW_law_763 : decode b_LW_law 763 = .ok (.goto 78, 3) := by decide +kernel
theorem d_LW_law_766 : decode b_LW_law 766 = .ok (.aload_n 1, 1) := by decide +kernel
theorem d_LW_law_767 : decode b_LW_law 767 = .ok (.invokevirtual 105, 3) := by decide +kernel
theorem d_LW_law_770 : decode b_LW_law 770 = .ok (.aload_n 2, 1) := by decide +kernel
theorem d_LW_law_771 : decode b_LW_law 771 = .ok (.invokevirtual 108, 3) := by decide +kernel
theorem d_LW_law_774 : decode b_LW_law 774 = .ok (.if_icmp .eq 67, 3) := by decide +kernel
theorem d_LW_law_777 : decode b_LW_law 777 = .ok (.iconst 0, 1) := by decide +kernel
theorem d_LW_law_778 : decode b_LW_law 778 = .ok (.ireturn, 1) := by decide +kernel
theorem d_LW_law_779 : decode b_LW_law 779 = .ok (.aload_n 1, 1) := by decide +kernel
theorem d_LW_law_780 : decode b_LW_law 780 = .ok (.invokevirtual 109, 3) := by decide +kernel
theorem d_LW_law_783 : decode b_LW_law 783 = .ok (.aload_n 2, 1) := by decide +kernel
theorem d_LW_law_784 : decode b_LW_law 784 = .ok (.invokevirtual 112, 3) := by decide +kernel
theorem d_LW_law_787 : decode b_LW_law 787 = .ok (.if_icmp .eq 54, 3) := by decide +kernel
theorem d_LW_law_790 : decode b_LW_law 790 = .ok (.iconst 0, 1) := by decide +kernel
theorem d_LW_law_791 : decode b_LW_law 791 = .ok (.ireturn, 1) := by decide +kernel
theorem d_LW_law_792 : decode b_LW_law 792 = .ok (.aload_n 1, 1) := by decide +kernel
theorem d_LW_law_793 : decode b_LW_law 793 = .ok (.invokevirtual 113, 3) := by decide +kernel
theorem d_LW_law_796 : decode b_LW_law 796 = .ok (.aload_n 2, 1) := by decide +kernel
theorem d_LW_law_797 : decode b_LW_law 797 = .ok (.invokevirtual 116, 3) := by decide +kernel
theorem d_LW_law_800 : decode b_LW_law 800 = .ok (.if_icmp .eq 41, 3) := by decide +kernel
theorem d_LW_law_803 : decode b_LW_law 803 = .ok (.iconst 0, 1) := by decide +kernel
theorem d_LW_law_804 : decode b_LW_law 804 = .ok (.ireturn, 1) := by decide +kernel
theorem d_LW_law_805 : decode b_LW_law 805 = .ok (.aload_n 1, 1) := by decide +kernel
theorem d_LW_law_806 : decode b_LW_law 806 = .ok (.aload_n 0, 1) := by decide +kernel
theorem d_LW_law_807 : decode b_LW_law 807 = .ok (.iload 4, 2) := by decide +kernel
theorem d_LW_law_809 : decode b_LW_law 809 = .ok (.iconst 1, 1) := by decide +kernel
theorem d_LW_law_810 : decode b_LW_law 810 = .ok (.iadd, 1) := by decide +kernel
theorem d_LW_law_811 : decode b_LW_law 811 = .ok (.iaload, 1) := by decide +kernel
theorem d_LW_law_812 : decode b_LW_law 812 = .ok (.invokevirtual 117, 3) := by decide +kernel
theorem d_LW_law_815 : decode b_LW_law 815 = .ok (.aload_n 2, 1) := by decide +kernel
theorem d_LW_law_816 : decode b_LW_law 816 = .ok (.aload_n 0, 1) := by decide +kernel
theorem d_LW_law_817 : decode b_LW_law 817 = .ok (.iload 4, 2) := by decide +kernel
theorem d_LW_law_819 : decode b_LW_law 819 = .ok (.iconst 1, 1) := by decide +kernel
theorem d_LW_law_820 : decode b_LW_law 820 = .ok (.iadd, 1) := by decide +kernel
theorem d_LW_law_821 : decode b_LW_law 821 = .ok (.iaload, 1) := by decide +kernel
theorem d_LW_law_822 : decode b_LW_law 822 = .ok (.invokevirtual 120, 3) := by decide +kernel
theorem d_LW_law_825 : decode b_LW_law 825 = .ok (.if_icmp .eq 16, 3) := by decide +kernel
theorem d_LW_law_828 : decode b_LW_law 828 = .ok (.iconst 0, 1) := by decide +kernel
theorem d_LW_law_829 : decode b_LW_law 829 = .ok (.ireturn, 1) := by decide +kernel
theorem d_LW_law_830 : decode b_LW_law 830 = .ok (.aload_n 1, 1) := by decide +kernel
theorem d_LW_law_831 : decode b_LW_law 831 = .ok (.invokevirtual 121, 3) := by decide +kernel
theorem d_LW_law_834 : decode b_LW_law 834 = .ok (.aload_n 2, 1) := by decide +kernel
theorem d_LW_law_835 : decode b_LW_law 835 = .ok (.invokevirtual 124, 3) := by decide +kernel
theorem d_LW_law_838 : decode b_LW_law 838 = .ok (.goto 3, 3) := by decide +kernel
theorem d_LW_law_841 : decode b_LW_law 841 = .ok (.iinc 4 6, 3) := by decide +kernel
theorem d_LW_law_844 : decode b_LW_law 844 = .ok (.goto (-801), 3) := by decide +kernel
theorem d_LW_law_847 : decode b_LW_law 847 = .ok (.iconst 1, 1) := by decide +kernel
theorem d_LW_law_848 : decode b_LW_law 848 = .ok (.ireturn, 1) := by decide +kernel
