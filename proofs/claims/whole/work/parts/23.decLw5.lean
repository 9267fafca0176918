theorem d_Lw_law_689 : decode k_Lw_law.1 689 = .ok (.aload_n 1, 1) := by decide +kernel
theorem d_Lw_law_690 : decode k_Lw_law.1 690 = .ok (.invokevirtual 99, 3) := by decide +kernel
theorem d_Lw_law_693 : decode k_Lw_law.1 693 = .ok (.aload_n 2, 1) := by decide +kernel
theorem d_Lw_law_694 : decode k_Lw_law.1 694 = .ok (.invokevirtual 102, 3) := by decide +kernel
theorem d_Lw_law_697 : decode k_Lw_law.1 697 = .ok (.if_icmp .eq 241, 3) := by decide +kernel
theorem d_Lw_law_700 : decode k_Lw_law.1 700 = .ok (.iconst 0, 1) := by decide +kernel
theorem d_Lw_law_701 : decode k_Lw_law.1 701 = .ok (.ireturn, 1) := by decide +kernel
theorem d_Lw_law_702 : decode k_Lw_law.1 702 = .ok (.aload_n 1, 1) := by decide +kernel
theorem d_Lw_law_703 : decode k_Lw_law.1 703 = .ok (.aload_n 0, 1) := by decide +kernel
theorem d_Lw_law_704 : decode k_Lw_law.1 704 = .ok (.iload 4, 2) := by decide +kernel
theorem d_Lw_law_706 : decode k_Lw_law.1 706 = .ok (.iconst 1, 1) := by decide +kernel
theorem d_Lw_law_707 : decode k_Lw_law.1 707 = .ok (.iadd, 1) := by decide +kernel
theorem d_Lw_law_708 : decode k_Lw_law.1 708 = .ok (.iaload, 1) := by decide +kernel
theorem d_Lw_law_709 : decode k_Lw_law.1 709 = .ok (.aload_n 0, 1) := by decide +kernel
theorem d_Lw_law_710 : decode k_Lw_law.1 710 = .ok (.iload 4, 2) := by decide +kernel
theorem d_Lw_law_712 : decode k_Lw_law.1 712 = .ok (.iconst 2, 1) := by decide +kernel
theorem d_Lw_law_713 : decode k_Lw_law.1 713 = .ok (.iadd, 1) := by decide +kernel
theorem d_Lw_law_714 : decode k_Lw_law.1 714 = .ok (.iaload, 1) := by decide +kernel
theorem d_Lw_law_715 : decode k_Lw_law.1 715 = .ok (.aload_n 3, 1) := by decide +kernel
theorem d_Lw_law_716 : decode k_Lw_law.1 716 = .ok (.invokestatic 103, 3) := by decide +kernel
theorem d_Lw_law_719 : decode k_Lw_law.1 719 = .ok (.istore 5, 2) := by decide +kernel
theorem d_Lw_law_721 : decode k_Lw_law.1 721 = .ok (.aload_n 2, 1) := by decide +kernel
theorem d_Lw_law_722 : decode k_Lw_law.1 722 = .ok (.aload_n 0, 1) := by decide +kernel
theorem d_Lw_law_723 : decode k_Lw_law.1 723 = .ok (.iload 4, 2) := by decide +kernel
theorem d_Lw_law_725 : decode k_Lw_law.1 725 = .ok (.iconst 1, 1) := by decide +kernel
theorem d_Lw_law_726 : decode k_Lw_law.1 726 = .ok (.iadd, 1) := by decide +kernel
theorem d_Lw_law_727 : decode k_Lw_law.1 727 = .ok (.iaload, 1) := by decide +kernel
theorem d_Lw_law_728 : decode k_Lw_law.1 728 = .ok (.aload_n 0, 1) := by decide +kernel
theorem d_Lw_law_729 : decode k_Lw_law.1 729 = .ok (.iload 4, 2) := by decide +kernel
theorem d_Lw_law_731 : decode k_Lw_law.1 731 = .ok (.iconst 2, 1) := by decide +kernel
theorem d_Lw_law_732 : decode k_Lw_law.1 732 = .ok (.iadd, 1) := by decide +kernel
theorem d_Lw_law_733 : decode k_Lw_law.1 733 = .ok (.iaload, 1) := by decide +kernel
theorem d_Lw_law_734 : decode k_Lw_law.1 734 = .ok (.invokevirtual 105, 3) := by decide +kernel
theorem d_Lw_law_737 : decode k_Lw_law.1 737 = .ok (.istore 6, 2) := by decide +kernel
theorem d_Lw_law_739 : decode k_Lw_law.1 739 = .ok (.aload_n 2, 1) := by decide +kernel
theorem d_Lw_law_740 : decode k_Lw_law.1 740 = .ok (.invokevirtual 65, 3) := by decide +kernel
theorem d_Lw_law_743 : decode k_Lw_law.1 743 = .ok (.iload 5, 2) := by decide +kernel
theorem d_Lw_law_745 : decode k_Lw_law.1 745 = .ok (.if_icmp .eq 5, 3) := by decide +kernel
theorem d_Lw_law_748 : decode k_Lw_law.1 748 = .ok (.iconst 0, 1) := by decide +kernel
theorem d_Lw_law_749 : decode k_Lw_law.1 749 = .ok (.ireturn, 1) := by decide +kernel
theorem d_Lw_law_750 : decode k_Lw_law.1 750 = .ok (.iload 5, 2) := by decide +kernel
theorem d_Lw_law_752 : decode k_Lw_law.1 752 = .ok (.ifCond .ne 15, 3) := by decide +kernel
theorem d_Lw_law_755 : decode k_Lw_law.1 755 = .ok (.aload_n 3, 1) := by decide +kernel
theorem d_Lw_law_756 : decode k_Lw_law.1 756 = .ok (.iconst 0, 1) := by decide +kernel
theorem d_Lw_law_757 : decode k_Lw_law.1 757 = .ok (.laload, 1) := by decide +kernel
theorem d_Lw_law_758 : decode k_Lw_law.1 758 = .ok (.iload 6, 2) := by decide +kernel
theorem d_Lw_law_760 : decode k_Lw_law.1 760 = .ok (.i2l, 1) := by decide +kernel
theorem d_Lw_law_761 : decode k_Lw_law.1 761 = .ok (.lcmp, 1) := by decide +kernel
theorem d_Lw_law_762 : decode k_Lw_law.1 762 = .ok (.ifCond .eq 5, 3) := by decide +kernel
theorem d_Lw_law_765 : decode k_Lw_law.1 765 = .ok (.iconst 0, 1) := by decide +kernel
theorem d_Lw_law_766 : decode k_Lw_law.1 766 = .ok (.ireturn, 1) := by decide +kernel
theorem d_Lw_law_767 : decode k_Lw_law.1 767 = .ok (.goto 171, 3) := by decide +kernel
theorem d_Lw_law_770 : decode k_Lw_law.1 770 = .ok (.aload_n 1, 1) := by decide +kernel
theorem d_Lw_law_771 : decode k_Lw_law.1 771 = .ok (.aload_n 0, 1) := by decide +kernel
theorem d_Lw_law_772 : decode k_Lw_law.1 772 = .ok (.iload 4, 2) := by decide +kernel
theorem d_Lw_law_774 : decode k_Lw_law.1 774 = .ok (.iconst 1, 1) := by decide +kernel
theorem d_Lw_law_775 : decode k_Lw_law.1 775 = .ok (.iadd, 1) := by decide +kernel
theorem d_Lw_law_776 : decode k_Lw_law.1 776 = .ok (.iaload, 1) := by decide +kernel
theorem d_Lw_law_777 : decode k_Lw_law.1 777 = .ok (.aload_n 3, 1) := by decide +kernel
theorem d_Lw_law_778 : decode k_Lw_law.1 778 = .ok (.invokestatic 106, 3) := by decide +kernel
theorem d_Lw_law_781 : decode k_Lw_law.1 781 = .ok (.istore 5, 2) := by decide +kernel
theorem d_Lw_law_783 : decode k_Lw_law.1 783 = .ok (.aload_n 2, 1) := by decide +kernel
theorem d_Lw_law_784 : decode k_Lw_law.1 784 = .ok (.aload_n 0, 1) := by decide +kernel
theorem d_Lw_law_785 : decode k_Lw_law.1 785 = .ok (.iload 4, 2) := by decide +kernel
theorem d_Lw_law_787 : decode k_Lw_law.1 787 = .ok (.iconst 1, 1) := by decide +kernel
theorem d_Lw_law_788 : decode k_Lw_law.1 788 = .ok (.iadd, 1) := by decide +kernel
theorem d_Lw_law_789 : decode k_Lw_law.1 789 = .ok (.iaload, 1) := by decide +kernel
theorem d_Lw_law_790 : decode k_Lw_law.1 790 = .ok (.invokevirtual 108, 3) := by decide +kernel
theorem d_Lw_law_793 : decode k_Lw_law.1 793 = .ok (.istore 6, 2) := by decide +kernel
theorem d_Lw_law_795 : decode k_Lw_law.1 795 = .ok (.aload_n 2, 1) := by decide +kernel
theorem d_Lw_law_796 : decode k_Lw_law.1 796 = .ok (.invokevirtual 65, 3) := by decide +kernel
theorem d_Lw_law_799 : decode k_Lw_law.1 799 = .ok (.iload 5, 2) := by decide +kernel
theorem d_Lw_law_801 : decode k_Lw_law.1 801 = .ok (.if_icmp .eq 5, 3) := by decide +kernel
theorem d_Lw_law_804 : decode k_Lw_law.1 804 = .ok (.iconst 0, 1) := by decide +kernel
theorem d_Lw_law_805 : decode k_Lw_law.1 805 = .ok (.ireturn, 1) := by decide +kernel
theorem d_Lw_law_806 : decode k_Lw_law.1 806 = .ok (.iload 5, 2) := by decide +kernel
theorem d_Lw_law_808 : decode k_Lw_law.1 808 = .ok (.ifCond .ne 15, 3) := by decide +kernel
theorem d_Lw_law_811 : decode k_Lw_law.1 811 = .ok (.aload_n 3, 1) := by decide +kernel
theorem d_Lw_law_812 : decode k_Lw_law.1 812 = .ok (.iconst 0, 1) := by decide +kernel
theorem d_Lw_law_813 : decode k_Lw_law.1 813 = .ok (.laload, 1) := by decide +kernel
theorem d_Lw_law_814 : decode k_Lw_law.1 814 = .ok (.iload 6, 2) := by decide +kernel
theorem d_Lw_law_816 : decode k_Lw_law.1 816 = .ok (.i2l, 1) := by decide +kernel
theorem d_Lw_law_817 : decode k_Lw_law.1 817 = .ok (.lcmp, 1) := by decide +kernel
theorem d_Lw_law_818 : decode k_Lw_law.1 818 = .ok (.ifCond .eq 5, 3) := by decide +kernel
theorem d_Lw_law_821 : decode k_Lw_law.1 821 = .ok (.iconst 0, 1) := by decide +kernel
theorem d_Lw_law_822 : decode k_Lw_law.1 822 = .ok (.ireturn, 1) := by decide +kernel
theorem d_Lw_law_823 : decode k_Lw_law.1 823 = .ok (.goto 115, 3) := by decide +kernel
theorem d_Lw_law_826 : decode k_Lw_law.1 826 = .ok (.aload_n 1, 1) := by decide +kernel
theorem d_Lw_law_827 : decode k_Lw_law.1 827 = .ok (.aload_n 0, 1) := by decide +kernel
theorem d_Lw_law_828 : decode k_Lw_law.1 828 = .ok (.iload 4, 2) := by decide +kernel
theorem d_Lw_law_830 : decode k_Lw_law.1 830 = .ok (.iconst 1, 1) := by decide +kernel
theorem d_Lw_law_831 : decode k_Lw_law.1 831 = .ok (.iadd, 1) := by decide +kernel
theorem d_Lw_law_832 : decode k_Lw_law.1 832 = .ok (.iaload, 1) := by decide +kernel
theorem d_Lw_law_833 : decode k_Lw_law.1 833 = .ok (.aload_n 3, 1) := by decide +kernel
theorem d_Lw_law_834 : decode k_Lw_law.1 834 = .ok (.invokestatic 109, 3) := by decide +kernel
theorem d_Lw_law_837 : decode k_Lw_law.1 837 = .ok (.istore 5, 2) := by decide +kernel
theorem d_Lw_law_839 : decode k_Lw_law.1 839 = .ok (.aload_n 2, 1) := by decide +kernel
theorem d_Lw_law_840 : decode k_Lw_law.1 840 = .ok (.aload_n 0, 1) := by decide +kernel
theorem d_Lw_law_841 : decode k_Lw_law.1 841 = .ok (.iload 4, 2) := by decide +kernel
theorem d_Lw_law_843 : decode k_Lw_law.1 843 = .ok (.iconst 1, 1) := by decide +kernel
theorem d_Lw_law_844 : decode k_Lw_law.1 844 = .ok (.iadd, 1) := by decide +kernel
theorem d_Lw_law_845 : decode k_Lw_law.1 845 = .ok (.iaload, 1) := by decide +kernel
theorem d_Lw_law_846 : decode k_Lw_law.1 846 = .ok (.invokevirtual 111, 3) := by decide +kernel
theorem d_Lw_law_849 : decode k_Lw_law.1 849 = .ok (.istore 6, 2) := by decide +kernel
theorem d_Lw_law_851 : decode k_Lw_law.1 851 = .ok (.aload_n 2, 1) := by decide +kernel
theorem d_Lw_law_852 : decode k_Lw_law.1 852 = .ok (.invokevirtual 65, 3) := by decide +kernel
theorem d_Lw_law_855 : decode k_Lw_law.1 855 = .ok (.iload 5, 2) := by decide +kernel
theorem d_Lw_law_857 : decode k_Lw_law.1 857 = .ok (.if_icmp .eq 5, 3) := by decide +kernel
theorem d_Lw_law_860 : decode k_Lw_law.1 860 = .ok (.iconst 0, 1) := by decide +kernel
theorem d_Lw_law_861 : decode k_Lw_law.1 861 = .ok (.ireturn, 1) := by decide +kernel
theorem d_Lw_law_862 : decode k_Lw_law.1 862 = .ok (.iload 5, 2) := by decide +kernel
theorem d_Lw_law_864 : decode k_Lw_law.1 864 = .ok (.ifCond .ne 15, 3) := by decide +kernel
theorem d_Lw_law_867 : decode k_Lw_law.1 867 = .ok (.aload_n 3, 1) := by decide +kernel
theorem d_Lw_law_868 : decode k_Lw_law.1 868 = .ok (.iconst 0, 1) := by decide +kernel
theorem d_Lw_law_869 : decode k_Lw_law.1 869 = .ok (.laload, 1) := by decide +kernel
theorem d_Lw_law_870 : decode k_Lw_law.1 870 = .ok (.iload 6, 2) := by decide +kernel
theorem d_Lw_law_872 : decode k_Lw_law.1 872 = .ok (.i2l, 1) := by decide +kernel
theorem d_Lw_law_873 : decode k_Lw_law.1 873 = .ok (.lcmp, 1) := by decide +kernel
theorem d_Lw_law_874 : decode k_Lw_law.1 874 = .ok (.ifCond .eq 5, 3) := by decide +kernel
theorem d_Lw_law_877 : decode k_Lw_law.1 877 = .ok (.iconst 0, 1) := by decide +kernel
