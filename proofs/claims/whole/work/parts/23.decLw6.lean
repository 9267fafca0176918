theorem d_Lw_law_878 : decode k_Lw_law.1 878 = .ok (.ireturn, 1) := by decide +kernel
theorem d_Lw_law_879 : decode k_Lw_law.1 879 = .ok (.goto 59, 3) := by decide +kernel
theorem d_Lw_law_882 : decode k_Lw_law.1 882 = .ok (.aload_n 1, 1) := by decide +kernel
theorem d_Lw_law_883 : decode k_Lw_law.1 883 = .ok (.aload_n 0, 1) := by decide +kernel
theorem d_Lw_law_884 : decode k_Lw_law.1 884 = .ok (.iload 4, 2) := by decide +kernel
theorem d_Lw_law_886 : decode k_Lw_law.1 886 = .ok (.iconst 1, 1) := by decide +kernel
theorem d_Lw_law_887 : decode k_Lw_law.1 887 = .ok (.iadd, 1) := by decide +kernel
theorem d_Lw_law_888 : decode k_Lw_law.1 888 = .ok (.iaload, 1) := by decide +kernel
theorem d_Lw_law_889 : decode k_Lw_law.1 889 = .ok (.aload_n 3, 1) := by decide +kernel
theorem d_Lw_law_890 : decode k_Lw_law.1 890 = .ok (.invokestatic 112, 3) := by decide +kernel
theorem d_Lw_law_893 : decode k_Lw_law.1 893 = .ok (.istore 5, 2) := by decide +kernel
theorem d_Lw_law_895 : decode k_Lw_law.1 895 = .ok (.aload_n 2, 1) := by decide +kernel
theorem d_Lw_law_896 : decode k_Lw_law.1 896 = .ok (.aload_n 0, 1) := by decide +kernel
theorem d_Lw_law_897 : decode k_Lw_law.1 897 = .ok (.iload 4, 2) := by decide +kernel
theorem d_Lw_law_899 : decode k_Lw_law.1 899 = .ok (.iconst 1, 1) := by decide +kernel
theorem d_Lw_law_900 : decode k_Lw_law.1 900 = .ok (.iadd, 1) := by decide +kernel
theorem d_Lw_law_901 : decode k_Lw_law.1 901 = .ok (.iaload, 1) := by decide +kernel
theorem d_Lw_law_902 : decode k_Lw_law.1 902 = .ok (.invokevirtual 114, 3) := by decide +kernel
theorem d_Lw_law_905 : decode k_Lw_law.1 905 = .ok (.istore 6, 2) := by decide +kernel
theorem d_Lw_law_907 : decode k_Lw_law.1 907 = .ok (.aload_n 2, 1) := by decide +kernel
theorem d_Lw_law_908 : decode k_Lw_law.1 908 = .ok (.invokevirtual 65, 3) := by decide +kernel
theorem d_Lw_law_911 : decode k_Lw_law.1 911 = .ok (.iload 5, 2) := by decide +kernel
theorem d_Lw_law_913 : decode k_Lw_law.1 913 = .ok (.if_icmp .eq 5, 3) := by decide +kernel
theorem d_Lw_law_916 : decode k_Lw_law.1 916 = .ok (.iconst 0, 1) := by decide +kernel
theorem d_Lw_law_917 : decode k_Lw_law.1 917 = .ok (.ireturn, 1) := by decide +kernel
theorem d_Lw_law_918 : decode k_Lw_law.1 918 = .ok (.iload 5, 2) := by decide +kernel
theorem d_Lw_law_920 : decode k_Lw_law.1 920 = .ok (.ifCond .ne 15, 3) := by decide +kernel
theorem d_Lw_law_923 : decode k_Lw_law.1 923 = .ok (.aload_n 3, 1) := by decide +kernel
theorem d_Lw_law_924 : decode k_Lw_law.1 924 = .ok (.iconst 0, 1) := by decide +kernel
theorem d_Lw_law_925 : decode k_Lw_law.1 925 = .ok (.laload, 1) := by decide +kernel
theorem d_Lw_law_926 : decode k_Lw_law.1 926 = .ok (.iload 6, 2) := by decide +kernel
theorem d_Lw_law_928 : decode k_Lw_law.1 928 = .ok (.i2l, 1) := by decide +kernel
theorem d_Lw_law_929 : decode k_Lw_law.1 929 = .ok (.lcmp, 1) := by decide +kernel
theorem d_Lw_law_930 : decode k_Lw_law.1 930 = .ok (.ifCond .eq 5, 3) := by decide +kernel
theorem d_Lw_law_933 : decode k_Lw_law.1 933 = .ok (.iconst 0, 1) := by decide +kernel
theorem d_Lw_law_934 : decode k_Lw_law.1 934 = .ok (.ireturn, 1) := by decide +kernel
theorem d_Lw_law_935 : decode k_Lw_law.1 935 = .ok (.goto 3, 3) := by decide +kernel
theorem d_Lw_law_938 : decode k_Lw_law.1 938 = .ok (.iinc 4 5, 3) := by decide +kernel
theorem d_Lw_law_941 : decode k_Lw_law.1 941 = .ok (.goto (-918), 3) := by decide +kernel
theorem d_Lw_law_944 : decode k_Lw_law.1 944 = .ok (.iconst 1, 1) := by decide +kernel
theorem d_Lw_law_945 : decode k_Lw_law.1 945 = .ok (.ireturn, 1) := by decide +kernel
