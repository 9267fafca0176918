theorem d_En_init_0 : decode k_En_init.1 0 = .ok (.aload_n 0, 1) := by decide +kernel
theorem d_En_init_1 : decode k_En_init.1 1 = .ok (.invokespecial 3, 3) := by decide +kernel
theorem d_En_init_4 : decode k_En_init.1 4 = .ok (.aload_n 0, 1) := by decide +kernel
theorem d_En_init_5 : decode k_En_init.1 5 = .ok (.bipush 30, 2) := by decide +kernel
theorem d_En_init_7 : decode k_En_init.1 7 = .ok (.newarray .long, 2) := by decide +kernel
theorem d_En_init_9 : decode k_En_init.1 9 = .ok (.putfield 11, 3) := by decide +kernel
theorem d_En_init_12 : decode k_En_init.1 12 = .ok (.aload_n 0, 1) := by decide +kernel
theorem d_En_init_13 : decode k_En_init.1 13 = .ok (.bipush 30, 2) := by decide +kernel
theorem d_En_init_15 : decode k_En_init.1 15 = .ok (.newarray .int, 2) := by decide +kernel
theorem d_En_init_17 : decode k_En_init.1 17 = .ok (.putfield 15, 3) := by decide +kernel
theorem d_En_init_20 : decode k_En_init.1 20 = .ok (.return_, 1) := by decide +kernel
theorem d_En_take_0 : decode k_En_take.1 0 = .ok (.aload_n 0, 1) := by decide +kernel
theorem d_En_take_1 : decode k_En_take.1 1 = .ok (.iconst 0, 1) := by decide +kernel
theorem d_En_take_2 : decode k_En_take.1 2 = .ok (.putfield 19, 3) := by decide +kernel
theorem d_En_take_5 : decode k_En_take.1 5 = .ok (.aload_n 1, 1) := by decide +kernel
theorem d_En_take_6 : decode k_En_take.1 6 = .ok (.iload_n 2, 1) := by decide +kernel
theorem d_En_take_7 : decode k_En_take.1 7 = .ok (.invokestatic 23, 3) := by decide +kernel
theorem d_En_take_10 : decode k_En_take.1 10 = .ok (.istore_n 3, 1) := by decide +kernel
theorem d_En_take_11 : decode k_En_take.1 11 = .ok (.iconst 0, 1) := by decide +kernel
theorem d_En_take_12 : decode k_En_take.1 12 = .ok (.istore 4, 2) := by decide +kernel
theorem d_En_take_14 : decode k_En_take.1 14 = .ok (.lconst 0, 1) := by decide +kernel
theorem d_En_take_15 : decode k_En_take.1 15 = .ok (.lstore 5, 2) := by decide +kernel
theorem d_En_take_17 : decode k_En_take.1 17 = .ok (.iconst 0, 1) := by decide +kernel
theorem d_En_take_18 : decode k_En_take.1 18 = .ok (.istore 7, 2) := by decide +kernel
theorem d_En_take_20 : decode k_En_take.1 20 = .ok (.iload 7, 2) := by decide +kernel
theorem d_En_take_22 : decode k_En_take.1 22 = .ok (.iload_n 2, 1) := by decide +kernel
theorem d_En_take_23 : decode k_En_take.1 23 = .ok (.if_icmp .ge 107, 3) := by decide +kernel
theorem d_En_take_26 : decode k_En_take.1 26 = .ok (.aload_n 1, 1) := by decide +kernel
theorem d_En_take_27 : decode k_En_take.1 27 = .ok (.iload 7, 2) := by decide +kernel
theorem d_En_take_29 : decode k_En_take.1 29 = .ok (.iaload, 1) := by decide +kernel
theorem d_En_take_30 : decode k_En_take.1 30 = .ok (.invokestatic 27, 3) := by decide +kernel
theorem d_En_take_33 : decode k_En_take.1 33 = .ok (.ifCond .eq 26, 3) := by decide +kernel
theorem d_En_take_36 : decode k_En_take.1 36 = .ok (.iload 4, 2) := by decide +kernel
theorem d_En_take_38 : decode k_En_take.1 38 = .ok (.bipush 8, 2) := by decide +kernel
theorem d_En_take_40 : decode k_En_take.1 40 = .ok (.if_icmp .ge 16, 3) := by decide +kernel
theorem d_En_take_43 : decode k_En_take.1 43 = .ok (.lload 5, 2) := by decide +kernel
theorem d_En_take_45 : decode k_En_take.1 45 = .ok (.iload 4, 2) := by decide +kernel
theorem d_En_take_47 : decode k_En_take.1 47 = .ok (.aload_n 1, 1) := by decide +kernel
theorem d_En_take_48 : decode k_En_take.1 48 = .ok (.iload 7, 2) := by decide +kernel
theorem d_En_take_50 : decode k_En_take.1 50 = .ok (.iaload, 1) := by decide +kernel
theorem d_En_take_51 : decode k_En_take.1 51 = .ok (.invokestatic 31, 3) := by decide +kernel
theorem d_En_take_54 : decode k_En_take.1 54 = .ok (.lstore 5, 2) := by decide +kernel
theorem d_En_take_56 : decode k_En_take.1 56 = .ok (.iinc 4 1, 3) := by decide +kernel
theorem d_En_take_59 : decode k_En_take.1 59 = .ok (.iload 7, 2) := by decide +kernel
theorem d_En_take_61 : decode k_En_take.1 61 = .ok (.iconst 1, 1) := by decide +kernel
theorem d_En_take_62 : decode k_En_take.1 62 = .ok (.iadd, 1) := by decide +kernel
theorem d_En_take_63 : decode k_En_take.1 63 = .ok (.iload_n 2, 1) := by decide +kernel
theorem d_En_take_64 : decode k_En_take.1 64 = .ok (.if_icmp .eq 15, 3) := by decide +kernel
theorem d_En_take_67 : decode k_En_take.1 67 = .ok (.aload_n 1, 1) := by decide +kernel
theorem d_En_take_68 : decode k_En_take.1 68 = .ok (.iload 7, 2) := by decide +kernel
theorem d_En_take_70 : decode k_En_take.1 70 = .ok (.iconst 1, 1) := by decide +kernel
theorem d_En_take_71 : decode k_En_take.1 71 = .ok (.iadd, 1) := by decide +kernel
theorem d_En_take_72 : decode k_En_take.1 72 = .ok (.iaload, 1) := by decide +kernel
theorem d_En_take_73 : decode k_En_take.1 73 = .ok (.invokestatic 27, 3) := by decide +kernel
theorem d_En_take_76 : decode k_En_take.1 76 = .ok (.ifCond .ne 7, 3) := by decide +kernel
theorem d_En_take_79 : decode k_En_take.1 79 = .ok (.iconst 1, 1) := by decide +kernel
theorem d_En_take_80 : decode k_En_take.1 80 = .ok (.goto 4, 3) := by decide +kernel
theorem d_En_take_83 : decode k_En_take.1 83 = .ok (.iconst 0, 1) := by decide +kernel
theorem d_En_take_84 : decode k_En_take.1 84 = .ok (.istore 8, 2) := by decide +kernel
theorem d_En_take_86 : decode k_En_take.1 86 = .ok (.iload 4, 2) := by decide +kernel
theorem d_En_take_88 : decode k_En_take.1 88 = .ok (.ifCond .le 36, 3) := by decide +kernel
theorem d_En_take_91 : decode k_En_take.1 91 = .ok (.iload 8, 2) := by decide +kernel
theorem d_En_take_93 : decode k_En_take.1 93 = .ok (.ifCond .eq 31, 3) := by decide +kernel
theorem d_En_take_96 : decode k_En_take.1 96 = .ok (.aload_n 0, 1) := by decide +kernel
theorem d_En_take_97 : decode k_En_take.1 97 = .ok (.lload 5, 2) := by decide +kernel
theorem d_En_take_99 : decode k_En_take.1 99 = .ok (.iload 7, 2) := by decide +kernel
theorem d_En_take_101 : decode k_En_take.1 101 = .ok (.iconst 1, 1) := by decide +kernel
theorem d_En_take_102 : decode k_En_take.1 102 = .ok (.iadd, 1) := by decide +kernel
theorem d_En_take_103 : decode k_En_take.1 103 = .ok (.iload 4, 2) := by decide +kernel
theorem d_En_take_105 : decode k_En_take.1 105 = .ok (.isub, 1) := by decide +kernel
theorem d_En_take_106 : decode k_En_take.1 106 = .ok (.iload_n 3, 1) := by decide +kernel
theorem d_En_take_107 : decode k_En_take.1 107 = .ok (.if_icmp .ge 7, 3) := by decide +kernel
theorem d_En_take_110 : decode k_En_take.1 110 = .ok (.iconst 3, 1) := by decide +kernel
theorem d_En_take_111 : decode k_En_take.1 111 = .ok (.goto 4, 3) := by decide +kernel
theorem d_En_take_114 : decode k_En_take.1 114 = .ok (.iconst 1, 1) := by decide +kernel
theorem d_En_take_115 : decode k_En_take.1 115 = .ok (.invokevirtual 35, 3) := by decide +kernel
theorem d_En_take_118 : decode k_En_take.1 118 = .ok (.iconst 0, 1) := by decide +kernel
theorem d_En_take_119 : decode k_En_take.1 119 = .ok (.istore 4, 2) := by decide +kernel
theorem d_En_take_121 : decode k_En_take.1 121 = .ok (.lconst 0, 1) := by decide +kernel
theorem d_En_take_122 : decode k_En_take.1 122 = .ok (.lstore 5, 2) := by decide +kernel
theorem d_En_take_124 : decode k_En_take.1 124 = .ok (.iinc 7 1, 3) := by decide +kernel
theorem d_En_take_127 : decode k_En_take.1 127 = .ok (.goto (-107), 3) := by decide +kernel
theorem d_En_take_130 : decode k_En_take.1 130 = .ok (.return_, 1) := by decide +kernel
theorem d_En_titleEndOf_0 : decode k_En_titleEndOf.1 0 = .ok (.iload_n 1, 1) := by decide +kernel
theorem d_En_titleEndOf_1 : decode k_En_titleEndOf.1 1 = .ok (.ifCond .eq 11, 3) := by decide +kernel
theorem d_En_titleEndOf_4 : decode k_En_titleEndOf.1 4 = .ok (.aload_n 0, 1) := by decide +kernel
theorem d_En_titleEndOf_5 : decode k_En_titleEndOf.1 5 = .ok (.iconst 0, 1) := by decide +kernel
theorem d_En_titleEndOf_6 : decode k_En_titleEndOf.1 6 = .ok (.iaload, 1) := by decide +kernel
theorem d_En_titleEndOf_7 : decode k_En_titleEndOf.1 7 = .ok (.bipush 35, 2) := by decide +kernel
theorem d_En_titleEndOf_9 : decode k_En_titleEndOf.1 9 = .ok (.if_icmp .eq 5, 3) := by decide +kernel
theorem d_En_titleEndOf_12 : decode k_En_titleEndOf.1 12 = .ok (.iconst 0, 1) := by decide +kernel
theorem d_En_titleEndOf_13 : decode k_En_titleEndOf.1 13 = .ok (.ireturn, 1) := by decide +kernel
theorem d_En_titleEndOf_14 : decode k_En_titleEndOf.1 14 = .ok (.iconst 0, 1) := by decide +kernel
theorem d_En_titleEndOf_15 : decode k_En_titleEndOf.1 15 = .ok (.istore_n 2, 1) := by decide +kernel
theorem d_En_titleEndOf_16 : decode k_En_titleEndOf.1 16 = .ok (.iload_n 2, 1) := by decide +kernel
theorem d_En_titleEndOf_17 : decode k_En_titleEndOf.1 17 = .ok (.iload_n 1, 1) := by decide +kernel
theorem d_En_titleEndOf_18 : decode k_En_titleEndOf.1 18 = .ok (.if_icmp .ge 19, 3) := by decide +kernel
theorem d_En_titleEndOf_21 : decode k_En_titleEndOf.1 21 = .ok (.aload_n 0, 1) := by decide +kernel
theorem d_En_titleEndOf_22 : decode k_En_titleEndOf.1 22 = .ok (.iload_n 2, 1) := by decide +kernel
theorem d_En_titleEndOf_23 : decode k_En_titleEndOf.1 23 = .ok (.iaload, 1) := by decide +kernel
theorem d_En_titleEndOf_24 : decode k_En_titleEndOf.1 24 = .ok (.bipush 59, 2) := by decide +kernel
theorem d_En_titleEndOf_26 : decode k_En_titleEndOf.1 26 = .ok (.if_icmp .ne 5, 3) := by decide +kernel
theorem d_En_titleEndOf_29 : decode k_En_titleEndOf.1 29 = .ok (.iload_n 2, 1) := by decide +kernel
theorem d_En_titleEndOf_30 : decode k_En_titleEndOf.1 30 = .ok (.ireturn, 1) := by decide +kernel
theorem d_En_titleEndOf_31 : decode k_En_titleEndOf.1 31 = .ok (.iinc 2 1, 3) := by decide +kernel
theorem d_En_titleEndOf_34 : decode k_En_titleEndOf.1 34 = .ok (.goto (-18), 3) := by decide +kernel
theorem d_En_titleEndOf_37 : decode k_En_titleEndOf.1 37 = .ok (.iload_n 1, 1) := by decide +kernel
theorem d_En_titleEndOf_38 : decode k_En_titleEndOf.1 38 = .ok (.ireturn, 1) := by decide +kernel
theorem d_En_add_0 : decode k_En_add.1 0 = .ok (.aload_n 0, 1) := by decide +kernel
theorem d_En_add_1 : decode k_En_add.1 1 = .ok (.getfield 11, 3) := by decide +kernel
theorem d_En_add_4 : decode k_En_add.1 4 = .ok (.aload_n 0, 1) := by decide +kernel
theorem d_En_add_5 : decode k_En_add.1 5 = .ok (.getfield 19, 3) := by decide +kernel
theorem d_En_add_8 : decode k_En_add.1 8 = .ok (.lload_n 1, 1) := by decide +kernel
theorem d_En_add_9 : decode k_En_add.1 9 = .ok (.lastore, 1) := by decide +kernel
theorem d_En_add_10 : decode k_En_add.1 10 = .ok (.aload_n 0, 1) := by decide +kernel
theorem d_En_add_11 : decode k_En_add.1 11 = .ok (.getfield 15, 3) := by decide +kernel
theorem d_En_add_14 : decode k_En_add.1 14 = .ok (.aload_n 0, 1) := by decide +kernel
theorem d_En_add_15 : decode k_En_add.1 15 = .ok (.getfield 19, 3) := by decide +kernel
theorem d_En_add_18 : decode k_En_add.1 18 = .ok (.iload_n 3, 1) := by decide +kernel
theorem d_En_add_19 : decode k_En_add.1 19 = .ok (.iastore, 1) := by decide +kernel
theorem d_En_add_20 : decode k_En_add.1 20 = .ok (.aload_n 0, 1) := by decide +kernel
theorem d_En_add_21 : decode k_En_add.1 21 = .ok (.dup, 1) := by decide +kernel
theorem d_En_add_22 : decode k_En_add.1 22 = .ok (.getfield 19, 3) := by decide +kernel
theorem d_En_add_25 : decode k_En_add.1 25 = .ok (.iconst 1, 1) := by decide +kernel
theorem d_En_add_26 : decode k_En_add.1 26 = .ok (.iadd, 1) := by decide +kernel
theorem d_En_add_27 : decode k_En_add.1 27 = .ok (.putfield 19, 3) := by decide +kernel
theorem d_En_add_30 : decode k_En_add.1 30 = .ok (.return_, 1) := by decide +kernel
theorem d_En_size_0 : decode k_En_size.1 0 = .ok (.aload_n 0, 1) := by decide +kernel
theorem d_En_size_1 : decode k_En_size.1 1 = .ok (.getfield 19, 3) := by decide +kernel
theorem d_En_size_4 : decode k_En_size.1 4 = .ok (.ireturn, 1) := by decide +kernel
theorem d_En_wordAt_0 : decode k_En_wordAt.1 0 = .ok (.aload_n 0, 1) := by decide +kernel
theorem d_En_wordAt_1 : decode k_En_wordAt.1 1 = .ok (.getfield 11, 3) := by decide +kernel
theorem d_En_wordAt_4 : decode k_En_wordAt.1 4 = .ok (.iload_n 1, 1) := by decide +kernel
theorem d_En_wordAt_5 : decode k_En_wordAt.1 5 = .ok (.laload, 1) := by decide +kernel
theorem d_En_wordAt_6 : decode k_En_wordAt.1 6 = .ok (.lreturn, 1) := by decide +kernel
theorem d_En_weightAt_0 : decode k_En_weightAt.1 0 = .ok (.aload_n 0, 1) := by decide +kernel
theorem d_En_weightAt_1 : decode k_En_weightAt.1 1 = .ok (.getfield 15, 3) := by decide +kernel
theorem d_En_weightAt_4 : decode k_En_weightAt.1 4 = .ok (.iload_n 1, 1) := by decide +kernel
theorem d_En_weightAt_5 : decode k_En_weightAt.1 5 = .ok (.iaload, 1) := by decide +kernel
theorem d_En_weightAt_6 : decode k_En_weightAt.1 6 = .ok (.ireturn, 1) := by decide +kernel
