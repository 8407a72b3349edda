theorem dL_law_721 : decode tp_bL_law 721 = .ok (.iload 5, 2) := by decide +kernel
theorem dL_law_723 : decode tp_bL_law 723 = .ok (.ifCond .ne 15, 3) := by decide +kernel
theorem dL_law_726 : decode tp_bL_law 726 = .ok (.aload_n 3, 1) := by decide +kernel
theorem dL_law_727 : decode tp_bL_law 727 = .ok (.iconst 0, 1) := by decide +kernel
theorem dL_law_728 : decode tp_bL_law 728 = .ok (.laload, 1) := by decide +kernel
theorem dL_law_729 : decode tp_bL_law 729 = .ok (.iload 6, 2) := by decide +kernel
theorem dL_law_731 : decode tp_bL_law 731 = .ok (.i2l, 1) := by decide +kernel
theorem dL_law_732 : decode tp_bL_law 732 = .ok (.lcmp, 1) := by decide +kernel
theorem dL_law_733 : decode tp_bL_law 733 = .ok (.ifCond .eq 5, 3) := by decide +kernel
theorem dL_law_736 : decode tp_bL_law 736 = .ok (.iconst 0, 1) := by decide +kernel
theorem dL_law_737 : decode tp_bL_law 737 = .ok (.ireturn, 1) := by decide +kernel
theorem dL_law_738 : decode tp_bL_law 738 = .ok (.goto 127, 3) := by decide +kernel
theorem dL_law_741 : decode tp_bL_law 741 = .ok (.aload_n 1, 1) := by decide +kernel
theorem dL_law_742 : decode tp_bL_law 742 = .ok (.aload_n 0, 1) := by decide +kernel
theorem dL_law_743 : decode tp_bL_law 743 = .ok (.iload 4, 2) := by decide +kernel
theorem dL_law_745 : decode tp_bL_law 745 = .ok (.iconst 1, 1) := by decide +kernel
theorem dL_law_746 : decode tp_bL_law 746 = .ok (.iadd, 1) := by decide +kernel
theorem dL_law_747 : decode tp_bL_law 747 = .ok (.iaload, 1) := by decide +kernel
theorem dL_law_748 : decode tp_bL_law 748 = .ok (.aload_n 0, 1) := by decide +kernel
theorem dL_law_749 : decode tp_bL_law 749 = .ok (.iload 4, 2) := by decide +kernel
theorem dL_law_751 : decode tp_bL_law 751 = .ok (.iconst 2, 1) := by decide +kernel
theorem dL_law_752 : decode tp_bL_law 752 = .ok (.iadd, 1) := by decide +kernel
theorem dL_law_753 : decode tp_bL_law 753 = .ok (.iaload, 1) := by decide +kernel
theorem dL_law_754 : decode tp_bL_law 754 = .ok (.aload_n 3, 1) := by decide +kernel
theorem dL_law_755 : decode tp_bL_law 755 = .ok (.invokestatic 116, 3) := by decide +kernel
theorem dL_law_758 : decode tp_bL_law 758 = .ok (.istore 5, 2) := by decide +kernel
theorem dL_law_760 : decode tp_bL_law 760 = .ok (.aload_n 2, 1) := by decide +kernel
theorem dL_law_761 : decode tp_bL_law 761 = .ok (.aload_n 0, 1) := by decide +kernel
theorem dL_law_762 : decode tp_bL_law 762 = .ok (.iload 4, 2) := by decide +kernel
theorem dL_law_764 : decode tp_bL_law 764 = .ok (.iconst 1, 1) := by decide +kernel
theorem dL_law_765 : decode tp_bL_law 765 = .ok (.iadd, 1) := by decide +kernel
theorem dL_law_766 : decode tp_bL_law 766 = .ok (.iaload, 1) := by decide +kernel
theorem dL_law_767 : decode tp_bL_law 767 = .ok (.aload_n 0, 1) := by decide +kernel
theorem dL_law_768 : decode tp_bL_law 768 = .ok (.iload 4, 2) := by decide +kernel
theorem dL_law_770 : decode tp_bL_law 770 = .ok (.iconst 2, 1) := by decide +kernel
theorem dL_law_771 : decode tp_bL_law 771 = .ok (.iadd, 1) := by decide +kernel
theorem dL_law_772 : decode tp_bL_law 772 = .ok (.iaload, 1) := by decide +kernel
theorem dL_law_773 : decode tp_bL_law 773 = .ok (.invokevirtual 118, 3) := by decide +kernel
theorem dL_law_776 : decode tp_bL_law 776 = .ok (.istore 6, 2) := by decide +kernel
theorem dL_law_778 : decode tp_bL_law 778 = .ok (.aload_n 2, 1) := by decide +kernel
theorem dL_law_779 : decode tp_bL_law 779 = .ok (.invokevirtual 73, 3) := by decide +kernel
theorem dL_law_782 : decode tp_bL_law 782 = .ok (.iload 5, 2) := by decide +kernel
theorem dL_law_784 : decode tp_bL_law 784 = .ok (.if_icmp .eq 5, 3) := by decide +kernel
theorem dL_law_787 : decode tp_bL_law 787 = .ok (.iconst 0, 1) := by decide +kernel
theorem dL_law_788 : decode tp_bL_law 788 = .ok (.ireturn, 1) := by decide +kernel
theorem dL_law_789 : decode tp_bL_law 789 = .ok (.iload 5, 2) := by decide +kernel
theorem dL_law_791 : decode tp_bL_law 791 = .ok (.ifCond .ne 15, 3) := by decide +kernel
theorem dL_law_794 : decode tp_bL_law 794 = .ok (.aload_n 3, 1) := by decide +kernel
theorem dL_law_795 : decode tp_bL_law 795 = .ok (.iconst 0, 1) := by decide +kernel
theorem dL_law_796 : decode tp_bL_law 796 = .ok (.laload, 1) := by decide +kernel
theorem dL_law_797 : decode tp_bL_law 797 = .ok (.iload 6, 2) := by decide +kernel
theorem dL_law_799 : decode tp_bL_law 799 = .ok (.i2l, 1) := by decide +kernel
theorem dL_law_800 : decode tp_bL_law 800 = .ok (.lcmp, 1) := by decide +kernel
theorem dL_law_801 : decode tp_bL_law 801 = .ok (.ifCond .eq 5, 3) := by decide +kernel
theorem dL_law_804 : decode tp_bL_law 804 = .ok (.iconst 0, 1) := by decide +kernel
theorem dL_law_805 : decode tp_bL_law 805 = .ok (.ireturn, 1) := by decide +kernel
theorem dL_law_806 : decode tp_bL_law 806 = .ok (.goto 59, 3) := by decide +kernel
theorem dL_law_809 : decode tp_bL_law 809 = .ok (.aload_n 1, 1) := by decide +kernel
theorem dL_law_810 : decode tp_bL_law 810 = .ok (.aload_n 0, 1) := by decide +kernel
theorem dL_law_811 : decode tp_bL_law 811 = .ok (.iload 4, 2) := by decide +kernel
theorem dL_law_813 : decode tp_bL_law 813 = .ok (.iconst 1, 1) := by decide +kernel
theorem dL_law_814 : decode tp_bL_law 814 = .ok (.iadd, 1) := by decide +kernel
theorem dL_law_815 : decode tp_bL_law 815 = .ok (.iaload, 1) := by decide +kernel
theorem dL_law_816 : decode tp_bL_law 816 = .ok (.aload_n 3, 1) := by decide +kernel
theorem dL_law_817 : decode tp_bL_law 817 = .ok (.invokestatic 119, 3) := by decide +kernel
theorem dL_law_820 : decode tp_bL_law 820 = .ok (.istore 5, 2) := by decide +kernel
theorem dL_law_822 : decode tp_bL_law 822 = .ok (.aload_n 2, 1) := by decide +kernel
theorem dL_law_823 : decode tp_bL_law 823 = .ok (.aload_n 0, 1) := by decide +kernel
theorem dL_law_824 : decode tp_bL_law 824 = .ok (.iload 4, 2) := by decide +kernel
theorem dL_law_826 : decode tp_bL_law 826 = .ok (.iconst 1, 1) := by decide +kernel
theorem dL_law_827 : decode tp_bL_law 827 = .ok (.iadd, 1) := by decide +kernel
theorem dL_law_828 : decode tp_bL_law 828 = .ok (.iaload, 1) := by decide +kernel
theorem dL_law_829 : decode tp_bL_law 829 = .ok (.invokevirtual 121, 3) := by decide +kernel
theorem dL_law_832 : decode tp_bL_law 832 = .ok (.istore 6, 2) := by decide +kernel
theorem dL_law_834 : decode tp_bL_law 834 = .ok (.aload_n 2, 1) := by decide +kernel
theorem dL_law_835 : decode tp_bL_law 835 = .ok (.invokevirtual 73, 3) := by decide +kernel
theorem dL_law_838 : decode tp_bL_law 838 = .ok (.iload 5, 2) := by decide +kernel
theorem dL_law_840 : decode tp_bL_law 840 = .ok (.if_icmp .eq 5, 3) := by decide +kernel
theorem dL_law_843 : decode tp_bL_law 843 = .ok (.iconst 0, 1) := by decide +kernel
theorem dL_law_844 : decode tp_bL_law 844 = .ok (.ireturn, 1) := by decide +kernel
theorem dL_law_845 : decode tp_bL_law 845 = .ok (.iload 5, 2) := by decide +kernel
theorem dL_law_847 : decode tp_bL_law 847 = .ok (.ifCond .ne 15, 3) := by decide +kernel
theorem dL_law_850 : decode tp_bL_law 850 = .ok (.aload_n 3, 1) := by decide +kernel
theorem dL_law_851 : decode tp_bL_law 851 = .ok (.iconst 0, 1) := by decide +kernel
theorem dL_law_852 : decode tp_bL_law 852 = .ok (.laload, 1) := by decide +kernel
theorem dL_law_853 : decode tp_bL_law 853 = .ok (.iload 6, 2) := by decide +kernel
theorem dL_law_855 : decode tp_bL_law 855 = .ok (.i2l, 1) := by decide +kernel
theorem dL_law_856 : decode tp_bL_law 856 = .ok (.lcmp, 1) := by decide +kernel
theorem dL_law_857 : decode tp_bL_law 857 = .ok (.ifCond .eq 5, 3) := by decide +kernel
theorem dL_law_860 : decode tp_bL_law 860 = .ok (.iconst 0, 1) := by decide +kernel
theorem dL_law_861 : decode tp_bL_law 861 = .ok (.ireturn, 1) := by decide +kernel
theorem dL_law_862 : decode tp_bL_law 862 = .ok (.goto 3, 3) := by decide +kernel
theorem dL_law_865 : decode tp_bL_law 865 = .ok (.iinc 4 4, 3) := by decide +kernel
theorem dL_law_868 : decode tp_bL_law 868 = .ok (.goto (-845), 3) := by decide +kernel
theorem dL_law_871 : decode tp_bL_law 871 = .ok (.iconst 1, 1) := by decide +kernel
theorem dL_law_872 : decode tp_bL_law 872 = .ok (.ireturn, 1) := by decide +kernel
