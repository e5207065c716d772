theorem d_law_727 : decode code 727 = .ok (.iconst 0, 1) := by decide +kernel
theorem d_law_728 : decode code 728 = .ok (.ireturn, 1) := by decide +kernel
theorem d_law_729 : decode code 729 = .ok (.iload 5, 2) := by decide +kernel
theorem d_law_731 : decode code 731 = .ok (.ifCond .ne 14, 3) := by decide +kernel
theorem d_law_734 : decode code 734 = .ok (.aload_n 3, 1) := by decide +kernel
theorem d_law_735 : decode code 735 = .ok (.iconst 0, 1) := by decide +kernel
theorem d_law_736 : decode code 736 = .ok (.laload, 1) := by decide +kernel
theorem d_law_737 : decode code 737 = .ok (.lload 6, 2) := by decide +kernel
theorem d_law_739 : decode code 739 = .ok (.lcmp, 1) := by decide +kernel
theorem d_law_740 : decode code 740 = .ok (.ifCond .eq 5, 3) := by decide +kernel
theorem d_law_743 : decode code 743 = .ok (.iconst 0, 1) := by decide +kernel
theorem d_law_744 : decode code 744 = .ok (.ireturn, 1) := by decide +kernel
theorem d_law_745 : decode code 745 = .ok (.goto 85, 3) := by decide +kernel
theorem d_law_748 : decode code 748 = .ok (.aload_n 1, 1) := by decide +kernel
theorem d_law_749 : decode code 749 = .ok (.aload_n 0, 1) := by decide +kernel
theorem d_law_750 : decode code 750 = .ok (.iload 4, 2) := by decide +kernel
theorem d_law_752 : decode code 752 = .ok (.iconst 1, 1) := by decide +kernel
theorem d_law_753 : decode code 753 = .ok (.iadd, 1) := by decide +kernel
theorem d_law_754 : decode code 754 = .ok (.iaload, 1) := by decide +kernel
theorem d_law_755 : decode code 755 = .ok (.aload_n 3, 1) := by decide +kernel
theorem d_law_756 : decode code 756 = .ok (.invokestatic 98, 3) := by decide +kernel
theorem d_law_759 : decode code 759 = .ok (.istore 5, 2) := by decide +kernel
theorem d_law_761 : decode code 761 = .ok (.aload_n 2, 1) := by decide +kernel
theorem d_law_762 : decode code 762 = .ok (.aload_n 0, 1) := by decide +kernel
theorem d_law_763 : decode code 763 = .ok (.iload 4, 2) := by decide +kernel
theorem d_law_765 : decode code 765 = .ok (.iconst 1, 1) := by decide +kernel
theorem d_law_766 : decode code 766 = .ok (.iadd, 1) := by decide +kernel
theorem d_law_767 : decode code 767 = .ok (.iaload, 1) := by decide +kernel
theorem d_law_768 : decode code 768 = .ok (.invokevirtual 100, 3) := by decide +kernel
theorem d_law_771 : decode code 771 = .ok (.istore 6, 2) := by decide +kernel
theorem d_law_773 : decode code 773 = .ok (.aload_n 2, 1) := by decide +kernel
theorem d_law_774 : decode code 774 = .ok (.invokevirtual 62, 3) := by decide +kernel
theorem d_law_777 : decode code 777 = .ok (.iload 5, 2) := by decide +kernel
theorem d_law_779 : decode code 779 = .ok (.if_icmp .eq 5, 3) := by decide +kernel
theorem d_law_782 : decode code 782 = .ok (.iconst 0, 1) := by decide +kernel
theorem d_law_783 : decode code 783 = .ok (.ireturn, 1) := by decide +kernel
theorem d_law_784 : decode code 784 = .ok (.iload 5, 2) := by decide +kernel
theorem d_law_786 : decode code 786 = .ok (.ifCond .ne 15, 3) := by decide +kernel
theorem d_law_789 : decode code 789 = .ok (.aload_n 3, 1) := by decide +kernel
theorem d_law_790 : decode code 790 = .ok (.iconst 0, 1) := by decide +kernel
theorem d_law_791 : decode code 791 = .ok (.laload, 1) := by decide +kernel
theorem d_law_792 : decode code 792 = .ok (.iload 6, 2) := by decide +kernel
theorem d_law_794 : decode code 794 = .ok (.i2l, 1) := by decide +kernel
theorem d_law_795 : decode code 795 = .ok (.lcmp, 1) := by decide +kernel
theorem d_law_796 : decode code 796 = .ok (.ifCond .eq 5, 3) := by decide +kernel
theorem d_law_799 : decode code 799 = .ok (.iconst 0, 1) := by decide +kernel
theorem d_law_800 : decode code 800 = .ok (.ireturn, 1) := by decide +kernel
theorem d_law_801 : decode code 801 = .ok (.goto 29, 3) := by decide +kernel
theorem d_law_804 : decode code 804 = .ok (.aload_n 1, 1) := by decide +kernel
theorem d_law_805 : decode code 805 = .ok (.aload_n 0, 1) := by decide +kernel
theorem d_law_806 : decode code 806 = .ok (.iload 4, 2) := by decide +kernel
theorem d_law_808 : decode code 808 = .ok (.iconst 1, 1) := by decide +kernel
theorem d_law_809 : decode code 809 = .ok (.iadd, 1) := by decide +kernel
theorem d_law_810 : decode code 810 = .ok (.iaload, 1) := by decide +kernel
theorem d_law_811 : decode code 811 = .ok (.invokevirtual 101, 3) := by decide +kernel
theorem d_law_814 : decode code 814 = .ok (.aload_n 2, 1) := by decide +kernel
theorem d_law_815 : decode code 815 = .ok (.aload_n 0, 1) := by decide +kernel
theorem d_law_816 : decode code 816 = .ok (.iload 4, 2) := by decide +kernel
theorem d_law_818 : decode code 818 = .ok (.iconst 1, 1) := by decide +kernel
theorem d_law_819 : decode code 819 = .ok (.iadd, 1) := by decide +kernel
theorem d_law_820 : decode code 820 = .ok (.iaload, 1) := by decide +kernel
theorem d_law_821 : decode code 821 = .ok (.invokevirtual 104, 3) := by decide +kernel
theorem d_law_824 : decode code 824 = .ok (.lcmp, 1) := by decide +kernel
theorem d_law_825 : decode code 825 = .ok (.ifCond .eq 5, 3) := by decide +kernel
theorem d_law_828 : decode code 828 = .ok (.iconst 0, 1) := by decide +kernel
theorem d_law_829 : decode code 829 = .ok (.ireturn, 1) := by decide +kernel
theorem d_law_830 : decode code 830 = .ok (.iinc 4 5, 3) := by decide +kernel
theorem d_law_833 : decode code 833 = .ok (.goto (-810), 3) := by decide +kernel
theorem d_law_836 : decode code 836 = .ok (.iconst 1, 1) := by decide +kernel
theorem d_law_837 : decode code 837 = .ok (.ireturn, 1) := by decide +kernel
