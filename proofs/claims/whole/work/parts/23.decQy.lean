theorem d_Qy_init_0 : decode k_Qy_init.1 0 = .ok (.aload_n 0, 1) := by decide +kernel
theorem d_Qy_init_1 : decode k_Qy_init.1 1 = .ok (.invokespecial 3, 3) := by decide +kernel
theorem d_Qy_init_4 : decode k_Qy_init.1 4 = .ok (.aload_n 0, 1) := by decide +kernel
theorem d_Qy_init_5 : decode k_Qy_init.1 5 = .ok (.bipush 40, 2) := by decide +kernel
theorem d_Qy_init_7 : decode k_Qy_init.1 7 = .ok (.newarray .int, 2) := by decide +kernel
theorem d_Qy_init_9 : decode k_Qy_init.1 9 = .ok (.putfield 9, 3) := by decide +kernel
theorem d_Qy_init_12 : decode k_Qy_init.1 12 = .ok (.aload_n 0, 1) := by decide +kernel
theorem d_Qy_init_13 : decode k_Qy_init.1 13 = .ok (.bipush 21, 2) := by decide +kernel
theorem d_Qy_init_15 : decode k_Qy_init.1 15 = .ok (.anewarray 15, 3) := by decide +kernel
theorem d_Qy_init_18 : decode k_Qy_init.1 18 = .ok (.putfield 17, 3) := by decide +kernel
theorem d_Qy_init_21 : decode k_Qy_init.1 21 = .ok (.iconst 0, 1) := by decide +kernel
theorem d_Qy_init_22 : decode k_Qy_init.1 22 = .ok (.istore_n 1, 1) := by decide +kernel
theorem d_Qy_init_23 : decode k_Qy_init.1 23 = .ok (.iload_n 1, 1) := by decide +kernel
theorem d_Qy_init_24 : decode k_Qy_init.1 24 = .ok (.bipush 21, 2) := by decide +kernel
theorem d_Qy_init_26 : decode k_Qy_init.1 26 = .ok (.if_icmp .ge 22, 3) := by decide +kernel
theorem d_Qy_init_29 : decode k_Qy_init.1 29 = .ok (.aload_n 0, 1) := by decide +kernel
theorem d_Qy_init_30 : decode k_Qy_init.1 30 = .ok (.getfield 17, 3) := by decide +kernel
theorem d_Qy_init_33 : decode k_Qy_init.1 33 = .ok (.iload_n 1, 1) := by decide +kernel
theorem d_Qy_init_34 : decode k_Qy_init.1 34 = .ok (.new 15, 3) := by decide +kernel
theorem d_Qy_init_37 : decode k_Qy_init.1 37 = .ok (.dup, 1) := by decide +kernel
theorem d_Qy_init_38 : decode k_Qy_init.1 38 = .ok (.invokespecial 21, 3) := by decide +kernel
theorem d_Qy_init_41 : decode k_Qy_init.1 41 = .ok (.aastore, 1) := by decide +kernel
theorem d_Qy_init_42 : decode k_Qy_init.1 42 = .ok (.iinc 1 1, 3) := by decide +kernel
theorem d_Qy_init_45 : decode k_Qy_init.1 45 = .ok (.goto (-22), 3) := by decide +kernel
theorem d_Qy_init_48 : decode k_Qy_init.1 48 = .ok (.return_, 1) := by decide +kernel
theorem d_Qy_length_0 : decode k_Qy_length.1 0 = .ok (.aload_n 0, 1) := by decide +kernel
theorem d_Qy_length_1 : decode k_Qy_length.1 1 = .ok (.getfield 22, 3) := by decide +kernel
theorem d_Qy_length_4 : decode k_Qy_length.1 4 = .ok (.ireturn, 1) := by decide +kernel
theorem d_Qy_append_0 : decode k_Qy_append.1 0 = .ok (.aload_n 0, 1) := by decide +kernel
theorem d_Qy_append_1 : decode k_Qy_append.1 1 = .ok (.getfield 9, 3) := by decide +kernel
theorem d_Qy_append_4 : decode k_Qy_append.1 4 = .ok (.aload_n 0, 1) := by decide +kernel
theorem d_Qy_append_5 : decode k_Qy_append.1 5 = .ok (.getfield 22, 3) := by decide +kernel
theorem d_Qy_append_8 : decode k_Qy_append.1 8 = .ok (.iload_n 1, 1) := by decide +kernel
theorem d_Qy_append_9 : decode k_Qy_append.1 9 = .ok (.iastore, 1) := by decide +kernel
theorem d_Qy_append_10 : decode k_Qy_append.1 10 = .ok (.aload_n 0, 1) := by decide +kernel
theorem d_Qy_append_11 : decode k_Qy_append.1 11 = .ok (.dup, 1) := by decide +kernel
theorem d_Qy_append_12 : decode k_Qy_append.1 12 = .ok (.getfield 22, 3) := by decide +kernel
theorem d_Qy_append_15 : decode k_Qy_append.1 15 = .ok (.iconst 1, 1) := by decide +kernel
theorem d_Qy_append_16 : decode k_Qy_append.1 16 = .ok (.iadd, 1) := by decide +kernel
theorem d_Qy_append_17 : decode k_Qy_append.1 17 = .ok (.putfield 22, 3) := by decide +kernel
theorem d_Qy_append_20 : decode k_Qy_append.1 20 = .ok (.return_, 1) := by decide +kernel
theorem d_Qy_parse_0 : decode k_Qy_parse.1 0 = .ok (.aload_n 0, 1) := by decide +kernel
theorem d_Qy_parse_1 : decode k_Qy_parse.1 1 = .ok (.iconst 0, 1) := by decide +kernel
theorem d_Qy_parse_2 : decode k_Qy_parse.1 2 = .ok (.putfield 26, 3) := by decide +kernel
theorem d_Qy_parse_5 : decode k_Qy_parse.1 5 = .ok (.aload_n 0, 1) := by decide +kernel
theorem d_Qy_parse_6 : decode k_Qy_parse.1 6 = .ok (.iconst (-1), 1) := by decide +kernel
theorem d_Qy_parse_7 : decode k_Qy_parse.1 7 = .ok (.putfield 29, 3) := by decide +kernel
theorem d_Qy_parse_10 : decode k_Qy_parse.1 10 = .ok (.aload_n 0, 1) := by decide +kernel
theorem d_Qy_parse_11 : decode k_Qy_parse.1 11 = .ok (.iconst 0, 1) := by decide +kernel
theorem d_Qy_parse_12 : decode k_Qy_parse.1 12 = .ok (.putfield 32, 3) := by decide +kernel
theorem d_Qy_parse_15 : decode k_Qy_parse.1 15 = .ok (.aload_n 0, 1) := by decide +kernel
theorem d_Qy_parse_16 : decode k_Qy_parse.1 16 = .ok (.iconst 0, 1) := by decide +kernel
theorem d_Qy_parse_17 : decode k_Qy_parse.1 17 = .ok (.putfield 35, 3) := by decide +kernel
theorem d_Qy_parse_20 : decode k_Qy_parse.1 20 = .ok (.aload_n 0, 1) := by decide +kernel
theorem d_Qy_parse_21 : decode k_Qy_parse.1 21 = .ok (.invokevirtual 38, 3) := by decide +kernel
theorem d_Qy_parse_24 : decode k_Qy_parse.1 24 = .ok (.iconst 0, 1) := by decide +kernel
theorem d_Qy_parse_25 : decode k_Qy_parse.1 25 = .ok (.istore_n 1, 1) := by decide +kernel
theorem d_Qy_parse_26 : decode k_Qy_parse.1 26 = .ok (.iload_n 1, 1) := by decide +kernel
theorem d_Qy_parse_27 : decode k_Qy_parse.1 27 = .ok (.bipush 40, 2) := by decide +kernel
theorem d_Qy_parse_29 : decode k_Qy_parse.1 29 = .ok (.if_icmp .ge 39, 3) := by decide +kernel
theorem d_Qy_parse_32 : decode k_Qy_parse.1 32 = .ok (.aload_n 0, 1) := by decide +kernel
theorem d_Qy_parse_33 : decode k_Qy_parse.1 33 = .ok (.invokevirtual 41, 3) := by decide +kernel
theorem d_Qy_parse_36 : decode k_Qy_parse.1 36 = .ok (.ifCond .ne 32, 3) := by decide +kernel
theorem d_Qy_parse_39 : decode k_Qy_parse.1 39 = .ok (.aload_n 0, 1) := by decide +kernel
theorem d_Qy_parse_40 : decode k_Qy_parse.1 40 = .ok (.invokevirtual 45, 3) := by decide +kernel
theorem d_Qy_parse_43 : decode k_Qy_parse.1 43 = .ok (.bipush 124, 2) := by decide +kernel
theorem d_Qy_parse_45 : decode k_Qy_parse.1 45 = .ok (.if_icmp .ne 23, 3) := by decide +kernel
theorem d_Qy_parse_48 : decode k_Qy_parse.1 48 = .ok (.aload_n 0, 1) := by decide +kernel
theorem d_Qy_parse_49 : decode k_Qy_parse.1 49 = .ok (.dup, 1) := by decide +kernel
theorem d_Qy_parse_50 : decode k_Qy_parse.1 50 = .ok (.getfield 26, 3) := by decide +kernel
theorem d_Qy_parse_53 : decode k_Qy_parse.1 53 = .ok (.iconst 1, 1) := by decide +kernel
theorem d_Qy_parse_54 : decode k_Qy_parse.1 54 = .ok (.iadd, 1) := by decide +kernel
theorem d_Qy_parse_55 : decode k_Qy_parse.1 55 = .ok (.putfield 26, 3) := by decide +kernel
theorem d_Qy_parse_58 : decode k_Qy_parse.1 58 = .ok (.aload_n 0, 1) := by decide +kernel
theorem d_Qy_parse_59 : decode k_Qy_parse.1 59 = .ok (.invokevirtual 38, 3) := by decide +kernel
theorem d_Qy_parse_62 : decode k_Qy_parse.1 62 = .ok (.iinc 1 1, 3) := by decide +kernel
theorem d_Qy_parse_65 : decode k_Qy_parse.1 65 = .ok (.goto (-39), 3) := by decide +kernel
theorem d_Qy_parse_68 : decode k_Qy_parse.1 68 = .ok (.aload_n 0, 1) := by decide +kernel
theorem d_Qy_parse_69 : decode k_Qy_parse.1 69 = .ok (.getfield 29, 3) := by decide +kernel
theorem d_Qy_parse_72 : decode k_Qy_parse.1 72 = .ok (.ireturn, 1) := by decide +kernel
theorem d_Qy_parseAlternative_0 : decode k_Qy_parseAlternative.1 0 = .ok (.aload_n 0, 1) := by decide +kernel
theorem d_Qy_parseAlternative_1 : decode k_Qy_parseAlternative.1 1 = .ok (.invokevirtual 70, 3) := by decide +kernel
theorem d_Qy_parseAlternative_4 : decode k_Qy_parseAlternative.1 4 = .ok (.aload_n 0, 1) := by decide +kernel
theorem d_Qy_parseAlternative_5 : decode k_Qy_parseAlternative.1 5 = .ok (.invokevirtual 73, 3) := by decide +kernel
theorem d_Qy_parseAlternative_8 : decode k_Qy_parseAlternative.1 8 = .ok (.iconst 0, 1) := by decide +kernel
theorem d_Qy_parseAlternative_9 : decode k_Qy_parseAlternative.1 9 = .ok (.istore_n 1, 1) := by decide +kernel
theorem d_Qy_parseAlternative_10 : decode k_Qy_parseAlternative.1 10 = .ok (.iload_n 1, 1) := by decide +kernel
theorem d_Qy_parseAlternative_11 : decode k_Qy_parseAlternative.1 11 = .ok (.bipush 40, 2) := by decide +kernel
theorem d_Qy_parseAlternative_13 : decode k_Qy_parseAlternative.1 13 = .ok (.if_icmp .ge 27, 3) := by decide +kernel
theorem d_Qy_parseAlternative_16 : decode k_Qy_parseAlternative.1 16 = .ok (.aload_n 0, 1) := by decide +kernel
theorem d_Qy_parseAlternative_17 : decode k_Qy_parseAlternative.1 17 = .ok (.invokevirtual 41, 3) := by decide +kernel
theorem d_Qy_parseAlternative_20 : decode k_Qy_parseAlternative.1 20 = .ok (.ifCond .ne 20, 3) := by decide +kernel
theorem d_Qy_parseAlternative_23 : decode k_Qy_parseAlternative.1 23 = .ok (.aload_n 0, 1) := by decide +kernel
theorem d_Qy_parseAlternative_24 : decode k_Qy_parseAlternative.1 24 = .ok (.invokevirtual 76, 3) := by decide +kernel
theorem d_Qy_parseAlternative_27 : decode k_Qy_parseAlternative.1 27 = .ok (.ifCond .ne 13, 3) := by decide +kernel
theorem d_Qy_parseAlternative_30 : decode k_Qy_parseAlternative.1 30 = .ok (.aload_n 0, 1) := by decide +kernel
theorem d_Qy_parseAlternative_31 : decode k_Qy_parseAlternative.1 31 = .ok (.invokevirtual 73, 3) := by decide +kernel
theorem d_Qy_parseAlternative_34 : decode k_Qy_parseAlternative.1 34 = .ok (.iinc 1 1, 3) := by decide +kernel
theorem d_Qy_parseAlternative_37 : decode k_Qy_parseAlternative.1 37 = .ok (.goto (-27), 3) := by decide +kernel
theorem d_Qy_parseAlternative_40 : decode k_Qy_parseAlternative.1 40 = .ok (.aload_n 0, 1) := by decide +kernel
theorem d_Qy_parseAlternative_41 : decode k_Qy_parseAlternative.1 41 = .ok (.dup, 1) := by decide +kernel
theorem d_Qy_parseAlternative_42 : decode k_Qy_parseAlternative.1 42 = .ok (.getfield 35, 3) := by decide +kernel
theorem d_Qy_parseAlternative_45 : decode k_Qy_parseAlternative.1 45 = .ok (.iconst 1, 1) := by decide +kernel
theorem d_Qy_parseAlternative_46 : decode k_Qy_parseAlternative.1 46 = .ok (.iadd, 1) := by decide +kernel
theorem d_Qy_parseAlternative_47 : decode k_Qy_parseAlternative.1 47 = .ok (.putfield 35, 3) := by decide +kernel
theorem d_Qy_parseAlternative_50 : decode k_Qy_parseAlternative.1 50 = .ok (.return_, 1) := by decide +kernel
theorem d_Qy_skipBlanks_0 : decode k_Qy_skipBlanks.1 0 = .ok (.aload_n 0, 1) := by decide +kernel
theorem d_Qy_skipBlanks_1 : decode k_Qy_skipBlanks.1 1 = .ok (.getfield 26, 3) := by decide +kernel
theorem d_Qy_skipBlanks_4 : decode k_Qy_skipBlanks.1 4 = .ok (.aload_n 0, 1) := by decide +kernel
theorem d_Qy_skipBlanks_5 : decode k_Qy_skipBlanks.1 5 = .ok (.getfield 22, 3) := by decide +kernel
theorem d_Qy_skipBlanks_8 : decode k_Qy_skipBlanks.1 8 = .ok (.if_icmp .ge 30, 3) := by decide +kernel
theorem d_Qy_skipBlanks_11 : decode k_Qy_skipBlanks.1 11 = .ok (.aload_n 0, 1) := by decide +kernel
theorem d_Qy_skipBlanks_12 : decode k_Qy_skipBlanks.1 12 = .ok (.getfield 9, 3) := by decide +kernel
theorem d_Qy_skipBlanks_15 : decode k_Qy_skipBlanks.1 15 = .ok (.aload_n 0, 1) := by decide +kernel
theorem d_Qy_skipBlanks_16 : decode k_Qy_skipBlanks.1 16 = .ok (.getfield 26, 3) := by decide +kernel
theorem d_Qy_skipBlanks_19 : decode k_Qy_skipBlanks.1 19 = .ok (.iaload, 1) := by decide +kernel
theorem d_Qy_skipBlanks_20 : decode k_Qy_skipBlanks.1 20 = .ok (.bipush 32, 2) := by decide +kernel
theorem d_Qy_skipBlanks_22 : decode k_Qy_skipBlanks.1 22 = .ok (.if_icmp .ne 16, 3) := by decide +kernel
theorem d_Qy_skipBlanks_25 : decode k_Qy_skipBlanks.1 25 = .ok (.aload_n 0, 1) := by decide +kernel
theorem d_Qy_skipBlanks_26 : decode k_Qy_skipBlanks.1 26 = .ok (.dup, 1) := by decide +kernel
theorem d_Qy_skipBlanks_27 : decode k_Qy_skipBlanks.1 27 = .ok (.getfield 26, 3) := by decide +kernel
theorem d_Qy_skipBlanks_30 : decode k_Qy_skipBlanks.1 30 = .ok (.iconst 1, 1) := by decide +kernel
theorem d_Qy_skipBlanks_31 : decode k_Qy_skipBlanks.1 31 = .ok (.iadd, 1) := by decide +kernel
theorem d_Qy_skipBlanks_32 : decode k_Qy_skipBlanks.1 32 = .ok (.putfield 26, 3) := by decide +kernel
theorem d_Qy_skipBlanks_35 : decode k_Qy_skipBlanks.1 35 = .ok (.goto (-35), 3) := by decide +kernel
theorem d_Qy_skipBlanks_38 : decode k_Qy_skipBlanks.1 38 = .ok (.return_, 1) := by decide +kernel
theorem d_Qy_parseTerm_0 : decode k_Qy_parseTerm.1 0 = .ok (.aload_n 0, 1) := by decide +kernel
theorem d_Qy_parseTerm_1 : decode k_Qy_parseTerm.1 1 = .ok (.getfield 17, 3) := by decide +kernel
theorem d_Qy_parseTerm_4 : decode k_Qy_parseTerm.1 4 = .ok (.aload_n 0, 1) := by decide +kernel
theorem d_Qy_parseTerm_5 : decode k_Qy_parseTerm.1 5 = .ok (.getfield 32, 3) := by decide +kernel
theorem d_Qy_parseTerm_8 : decode k_Qy_parseTerm.1 8 = .ok (.aaload, 1) := by decide +kernel
theorem d_Qy_parseTerm_9 : decode k_Qy_parseTerm.1 9 = .ok (.astore_n 1, 1) := by decide +kernel
theorem d_Qy_parseTerm_10 : decode k_Qy_parseTerm.1 10 = .ok (.aload_n 1, 1) := by decide +kernel
theorem d_Qy_parseTerm_11 : decode k_Qy_parseTerm.1 11 = .ok (.aload_n 0, 1) := by decide +kernel
theorem d_Qy_parseTerm_12 : decode k_Qy_parseTerm.1 12 = .ok (.getfield 35, 3) := by decide +kernel
theorem d_Qy_parseTerm_15 : decode k_Qy_parseTerm.1 15 = .ok (.invokevirtual 79, 3) := by decide +kernel
theorem d_Qy_parseTerm_18 : decode k_Qy_parseTerm.1 18 = .ok (.aload_n 0, 1) := by decide +kernel
theorem d_Qy_parseTerm_19 : decode k_Qy_parseTerm.1 19 = .ok (.dup, 1) := by decide +kernel
theorem d_Qy_parseTerm_20 : decode k_Qy_parseTerm.1 20 = .ok (.getfield 32, 3) := by decide +kernel
theorem d_Qy_parseTerm_23 : decode k_Qy_parseTerm.1 23 = .ok (.iconst 1, 1) := by decide +kernel
theorem d_Qy_parseTerm_24 : decode k_Qy_parseTerm.1 24 = .ok (.iadd, 1) := by decide +kernel
theorem d_Qy_parseTerm_25 : decode k_Qy_parseTerm.1 25 = .ok (.putfield 32, 3) := by decide +kernel
theorem d_Qy_parseTerm_28 : decode k_Qy_parseTerm.1 28 = .ok (.aload_n 0, 1) := by decide +kernel
theorem d_Qy_parseTerm_29 : decode k_Qy_parseTerm.1 29 = .ok (.invokevirtual 45, 3) := by decide +kernel
theorem d_Qy_parseTerm_32 : decode k_Qy_parseTerm.1 32 = .ok (.bipush 45, 2) := by decide +kernel
theorem d_Qy_parseTerm_34 : decode k_Qy_parseTerm.1 34 = .ok (.if_icmp .ne 17, 3) := by decide +kernel
theorem d_Qy_parseTerm_37 : decode k_Qy_parseTerm.1 37 = .ok (.aload_n 1, 1) := by decide +kernel
theorem d_Qy_parseTerm_38 : decode k_Qy_parseTerm.1 38 = .ok (.invokevirtual 83, 3) := by decide +kernel
theorem d_Qy_parseTerm_41 : decode k_Qy_parseTerm.1 41 = .ok (.aload_n 0, 1) := by decide +kernel
theorem d_Qy_parseTerm_42 : decode k_Qy_parseTerm.1 42 = .ok (.dup, 1) := by decide +kernel
theorem d_Qy_parseTerm_43 : decode k_Qy_parseTerm.1 43 = .ok (.getfield 26, 3) := by decide +kernel
theorem d_Qy_parseTerm_46 : decode k_Qy_parseTerm.1 46 = .ok (.iconst 1, 1) := by decide +kernel
theorem d_Qy_parseTerm_47 : decode k_Qy_parseTerm.1 47 = .ok (.iadd, 1) := by decide +kernel
theorem d_Qy_parseTerm_48 : decode k_Qy_parseTerm.1 48 = .ok (.putfield 26, 3) := by decide +kernel
theorem d_Qy_parseTerm_51 : decode k_Qy_parseTerm.1 51 = .ok (.aload_n 0, 1) := by decide +kernel
theorem d_Qy_parseTerm_52 : decode k_Qy_parseTerm.1 52 = .ok (.invokevirtual 45, 3) := by decide +kernel
theorem d_Qy_parseTerm_55 : decode k_Qy_parseTerm.1 55 = .ok (.bipush 34, 2) := by decide +kernel
theorem d_Qy_parseTerm_57 : decode k_Qy_parseTerm.1 57 = .ok (.if_icmp .ne 21, 3) := by decide +kernel
theorem d_Qy_parseTerm_60 : decode k_Qy_parseTerm.1 60 = .ok (.aload_n 0, 1) := by decide +kernel
theorem d_Qy_parseTerm_61 : decode k_Qy_parseTerm.1 61 = .ok (.dup, 1) := by decide +kernel
theorem d_Qy_parseTerm_62 : decode k_Qy_parseTerm.1 62 = .ok (.getfield 26, 3) := by decide +kernel
theorem d_Qy_parseTerm_65 : decode k_Qy_parseTerm.1 65 = .ok (.iconst 1, 1) := by decide +kernel
theorem d_Qy_parseTerm_66 : decode k_Qy_parseTerm.1 66 = .ok (.iadd, 1) := by decide +kernel
theorem d_Qy_parseTerm_67 : decode k_Qy_parseTerm.1 67 = .ok (.putfield 26, 3) := by decide +kernel
theorem d_Qy_parseTerm_70 : decode k_Qy_parseTerm.1 70 = .ok (.aload_n 0, 1) := by decide +kernel
theorem d_Qy_parseTerm_71 : decode k_Qy_parseTerm.1 71 = .ok (.aload_n 1, 1) := by decide +kernel
theorem d_Qy_parseTerm_72 : decode k_Qy_parseTerm.1 72 = .ok (.invokevirtual 86, 3) := by decide +kernel
theorem d_Qy_parseTerm_75 : decode k_Qy_parseTerm.1 75 = .ok (.goto 8, 3) := by decide +kernel
theorem d_Qy_parseTerm_78 : decode k_Qy_parseTerm.1 78 = .ok (.aload_n 0, 1) := by decide +kernel
theorem d_Qy_parseTerm_79 : decode k_Qy_parseTerm.1 79 = .ok (.aload_n 1, 1) := by decide +kernel
theorem d_Qy_parseTerm_80 : decode k_Qy_parseTerm.1 80 = .ok (.invokevirtual 90, 3) := by decide +kernel
theorem d_Qy_parseTerm_83 : decode k_Qy_parseTerm.1 83 = .ok (.aload_n 0, 1) := by decide +kernel
theorem d_Qy_parseTerm_84 : decode k_Qy_parseTerm.1 84 = .ok (.invokevirtual 41, 3) := by decide +kernel
theorem d_Qy_parseTerm_87 : decode k_Qy_parseTerm.1 87 = .ok (.ifCond .ne 7, 3) := by decide +kernel
theorem d_Qy_parseTerm_90 : decode k_Qy_parseTerm.1 90 = .ok (.aload_n 0, 1) := by decide +kernel
theorem d_Qy_parseTerm_91 : decode k_Qy_parseTerm.1 91 = .ok (.invokevirtual 93, 3) := by decide +kernel
theorem d_Qy_parseTerm_94 : decode k_Qy_parseTerm.1 94 = .ok (.return_, 1) := by decide +kernel
theorem d_Qy_next_0 : decode k_Qy_next.1 0 = .ok (.aload_n 0, 1) := by decide +kernel
theorem d_Qy_next_1 : decode k_Qy_next.1 1 = .ok (.getfield 26, 3) := by decide +kernel
theorem d_Qy_next_4 : decode k_Qy_next.1 4 = .ok (.aload_n 0, 1) := by decide +kernel
theorem d_Qy_next_5 : decode k_Qy_next.1 5 = .ok (.getfield 22, 3) := by decide +kernel
theorem d_Qy_next_8 : decode k_Qy_next.1 8 = .ok (.if_icmp .ge 15, 3) := by decide +kernel
theorem d_Qy_next_11 : decode k_Qy_next.1 11 = .ok (.aload_n 0, 1) := by decide +kernel
theorem d_Qy_next_12 : decode k_Qy_next.1 12 = .ok (.getfield 9, 3) := by decide +kernel
theorem d_Qy_next_15 : decode k_Qy_next.1 15 = .ok (.aload_n 0, 1) := by decide +kernel
theorem d_Qy_next_16 : decode k_Qy_next.1 16 = .ok (.getfield 26, 3) := by decide +kernel
theorem d_Qy_next_19 : decode k_Qy_next.1 19 = .ok (.iaload, 1) := by decide +kernel
theorem d_Qy_next_20 : decode k_Qy_next.1 20 = .ok (.goto 4, 3) := by decide +kernel
theorem d_Qy_next_23 : decode k_Qy_next.1 23 = .ok (.iconst 0, 1) := by decide +kernel
theorem d_Qy_next_24 : decode k_Qy_next.1 24 = .ok (.ireturn, 1) := by decide +kernel
theorem d_Qy_parsePhrase_0 : decode k_Qy_parsePhrase.1 0 = .ok (.aload_n 0, 1) := by decide +kernel
theorem d_Qy_parsePhrase_1 : decode k_Qy_parsePhrase.1 1 = .ok (.invokevirtual 70, 3) := by decide +kernel
theorem d_Qy_parsePhrase_4 : decode k_Qy_parsePhrase.1 4 = .ok (.iconst 0, 1) := by decide +kernel
theorem d_Qy_parsePhrase_5 : decode k_Qy_parsePhrase.1 5 = .ok (.istore_n 2, 1) := by decide +kernel
theorem d_Qy_parsePhrase_6 : decode k_Qy_parsePhrase.1 6 = .ok (.iload_n 2, 1) := by decide +kernel
theorem d_Qy_parsePhrase_7 : decode k_Qy_parsePhrase.1 7 = .ok (.iconst 4, 1) := by decide +kernel
theorem d_Qy_parsePhrase_8 : decode k_Qy_parsePhrase.1 8 = .ok (.if_icmp .ge 35, 3) := by decide +kernel
theorem d_Qy_parsePhrase_11 : decode k_Qy_parsePhrase.1 11 = .ok (.aload_n 0, 1) := by decide +kernel
theorem d_Qy_parsePhrase_12 : decode k_Qy_parsePhrase.1 12 = .ok (.invokevirtual 41, 3) := by decide +kernel
theorem d_Qy_parsePhrase_15 : decode k_Qy_parsePhrase.1 15 = .ok (.ifCond .ne 28, 3) := by decide +kernel
theorem d_Qy_parsePhrase_18 : decode k_Qy_parsePhrase.1 18 = .ok (.aload_n 0, 1) := by decide +kernel
theorem d_Qy_parsePhrase_19 : decode k_Qy_parsePhrase.1 19 = .ok (.invokevirtual 45, 3) := by decide +kernel
theorem d_Qy_parsePhrase_22 : decode k_Qy_parsePhrase.1 22 = .ok (.invokestatic 102, 3) := by decide +kernel
theorem d_Qy_parsePhrase_25 : decode k_Qy_parsePhrase.1 25 = .ok (.ifCond .eq 18, 3) := by decide +kernel
theorem d_Qy_parsePhrase_28 : decode k_Qy_parsePhrase.1 28 = .ok (.aload_n 0, 1) := by decide +kernel
theorem d_Qy_parsePhrase_29 : decode k_Qy_parsePhrase.1 29 = .ok (.aload_n 1, 1) := by decide +kernel
theorem d_Qy_parsePhrase_30 : decode k_Qy_parsePhrase.1 30 = .ok (.invokevirtual 96, 3) := by decide +kernel
theorem d_Qy_parsePhrase_33 : decode k_Qy_parsePhrase.1 33 = .ok (.aload_n 0, 1) := by decide +kernel
theorem d_Qy_parsePhrase_34 : decode k_Qy_parsePhrase.1 34 = .ok (.invokevirtual 70, 3) := by decide +kernel
theorem d_Qy_parsePhrase_37 : decode k_Qy_parsePhrase.1 37 = .ok (.iinc 2 1, 3) := by decide +kernel
theorem d_Qy_parsePhrase_40 : decode k_Qy_parsePhrase.1 40 = .ok (.goto (-34), 3) := by decide +kernel
theorem d_Qy_parsePhrase_43 : decode k_Qy_parsePhrase.1 43 = .ok (.aload_n 0, 1) := by decide +kernel
theorem d_Qy_parsePhrase_44 : decode k_Qy_parsePhrase.1 44 = .ok (.invokevirtual 41, 3) := by decide +kernel
theorem d_Qy_parsePhrase_47 : decode k_Qy_parsePhrase.1 47 = .ok (.ifCond .eq 4, 3) := by decide +kernel
theorem d_Qy_parsePhrase_50 : decode k_Qy_parsePhrase.1 50 = .ok (.return_, 1) := by decide +kernel
theorem d_Qy_parsePhrase_51 : decode k_Qy_parsePhrase.1 51 = .ok (.aload_n 1, 1) := by decide +kernel
theorem d_Qy_parsePhrase_52 : decode k_Qy_parsePhrase.1 52 = .ok (.invokevirtual 105, 3) := by decide +kernel
theorem d_Qy_parsePhrase_55 : decode k_Qy_parsePhrase.1 55 = .ok (.ifCond .ne 12, 3) := by decide +kernel
theorem d_Qy_parsePhrase_58 : decode k_Qy_parsePhrase.1 58 = .ok (.aload_n 0, 1) := by decide +kernel
theorem d_Qy_parsePhrase_59 : decode k_Qy_parsePhrase.1 59 = .ok (.invokevirtual 45, 3) := by decide +kernel
theorem d_Qy_parsePhrase_62 : decode k_Qy_parsePhrase.1 62 = .ok (.bipush 34, 2) := by decide +kernel
theorem d_Qy_parsePhrase_64 : decode k_Qy_parsePhrase.1 64 = .ok (.if_icmp .eq 14, 3) := by decide +kernel
theorem d_Qy_parsePhrase_67 : decode k_Qy_parsePhrase.1 67 = .ok (.aload_n 0, 1) := by decide +kernel
theorem d_Qy_parsePhrase_68 : decode k_Qy_parsePhrase.1 68 = .ok (.aload_n 0, 1) := by decide +kernel
theorem d_Qy_parsePhrase_69 : decode k_Qy_parsePhrase.1 69 = .ok (.getfield 26, 3) := by decide +kernel
theorem d_Qy_parsePhrase_72 : decode k_Qy_parsePhrase.1 72 = .ok (.putfield 29, 3) := by decide +kernel
theorem d_Qy_parsePhrase_75 : decode k_Qy_parsePhrase.1 75 = .ok (.goto 13, 3) := by decide +kernel
theorem d_Qy_parsePhrase_78 : decode k_Qy_parsePhrase.1 78 = .ok (.aload_n 0, 1) := by decide +kernel
theorem d_Qy_parsePhrase_79 : decode k_Qy_parsePhrase.1 79 = .ok (.dup, 1) := by decide +kernel
theorem d_Qy_parsePhrase_80 : decode k_Qy_parsePhrase.1 80 = .ok (.getfield 26, 3) := by decide +kernel
theorem d_Qy_parsePhrase_83 : decode k_Qy_parsePhrase.1 83 = .ok (.iconst 1, 1) := by decide +kernel
theorem d_Qy_parsePhrase_84 : decode k_Qy_parsePhrase.1 84 = .ok (.iadd, 1) := by decide +kernel
theorem d_Qy_parsePhrase_85 : decode k_Qy_parsePhrase.1 85 = .ok (.putfield 26, 3) := by decide +kernel
theorem d_Qy_parsePhrase_88 : decode k_Qy_parsePhrase.1 88 = .ok (.return_, 1) := by decide +kernel
theorem d_Qy_isFaulty_0 : decode k_Qy_isFaulty.1 0 = .ok (.aload_n 0, 1) := by decide +kernel
theorem d_Qy_isFaulty_1 : decode k_Qy_isFaulty.1 1 = .ok (.getfield 29, 3) := by decide +kernel
theorem d_Qy_isFaulty_4 : decode k_Qy_isFaulty.1 4 = .ok (.iconst (-1), 1) := by decide +kernel
theorem d_Qy_isFaulty_5 : decode k_Qy_isFaulty.1 5 = .ok (.if_icmp .eq 7, 3) := by decide +kernel
theorem d_Qy_isFaulty_8 : decode k_Qy_isFaulty.1 8 = .ok (.iconst 1, 1) := by decide +kernel
theorem d_Qy_isFaulty_9 : decode k_Qy_isFaulty.1 9 = .ok (.goto 4, 3) := by decide +kernel
theorem d_Qy_isFaulty_12 : decode k_Qy_isFaulty.1 12 = .ok (.iconst 0, 1) := by decide +kernel
theorem d_Qy_isFaulty_13 : decode k_Qy_isFaulty.1 13 = .ok (.ireturn, 1) := by decide +kernel
theorem d_Qy_parseWord_0 : decode k_Qy_parseWord.1 0 = .ok (.lconst 0, 1) := by decide +kernel
theorem d_Qy_parseWord_1 : decode k_Qy_parseWord.1 1 = .ok (.lstore_n 2, 1) := by decide +kernel
theorem d_Qy_parseWord_2 : decode k_Qy_parseWord.1 2 = .ok (.iconst 0, 1) := by decide +kernel
theorem d_Qy_parseWord_3 : decode k_Qy_parseWord.1 3 = .ok (.istore 4, 2) := by decide +kernel
theorem d_Qy_parseWord_5 : decode k_Qy_parseWord.1 5 = .ok (.iload 4, 2) := by decide +kernel
theorem d_Qy_parseWord_7 : decode k_Qy_parseWord.1 7 = .ok (.bipush 8, 2) := by decide +kernel
theorem d_Qy_parseWord_9 : decode k_Qy_parseWord.1 9 = .ok (.if_icmp .ge 40, 3) := by decide +kernel
theorem d_Qy_parseWord_12 : decode k_Qy_parseWord.1 12 = .ok (.aload_n 0, 1) := by decide +kernel
theorem d_Qy_parseWord_13 : decode k_Qy_parseWord.1 13 = .ok (.invokevirtual 45, 3) := by decide +kernel
theorem d_Qy_parseWord_16 : decode k_Qy_parseWord.1 16 = .ok (.invokestatic 102, 3) := by decide +kernel
theorem d_Qy_parseWord_19 : decode k_Qy_parseWord.1 19 = .ok (.ifCond .eq 30, 3) := by decide +kernel
theorem d_Qy_parseWord_22 : decode k_Qy_parseWord.1 22 = .ok (.lload_n 2, 1) := by decide +kernel
theorem d_Qy_parseWord_23 : decode k_Qy_parseWord.1 23 = .ok (.iload 4, 2) := by decide +kernel
theorem d_Qy_parseWord_25 : decode k_Qy_parseWord.1 25 = .ok (.aload_n 0, 1) := by decide +kernel
theorem d_Qy_parseWord_26 : decode k_Qy_parseWord.1 26 = .ok (.invokevirtual 45, 3) := by decide +kernel
theorem d_Qy_parseWord_29 : decode k_Qy_parseWord.1 29 = .ok (.invokestatic 108, 3) := by decide +kernel
theorem d_Qy_parseWord_32 : decode k_Qy_parseWord.1 32 = .ok (.lstore_n 2, 1) := by decide +kernel
theorem d_Qy_parseWord_33 : decode k_Qy_parseWord.1 33 = .ok (.iinc 4 1, 3) := by decide +kernel
theorem d_Qy_parseWord_36 : decode k_Qy_parseWord.1 36 = .ok (.aload_n 0, 1) := by decide +kernel
theorem d_Qy_parseWord_37 : decode k_Qy_parseWord.1 37 = .ok (.dup, 1) := by decide +kernel
theorem d_Qy_parseWord_38 : decode k_Qy_parseWord.1 38 = .ok (.getfield 26, 3) := by decide +kernel
theorem d_Qy_parseWord_41 : decode k_Qy_parseWord.1 41 = .ok (.iconst 1, 1) := by decide +kernel
theorem d_Qy_parseWord_42 : decode k_Qy_parseWord.1 42 = .ok (.iadd, 1) := by decide +kernel
theorem d_Qy_parseWord_43 : decode k_Qy_parseWord.1 43 = .ok (.putfield 26, 3) := by decide +kernel
theorem d_Qy_parseWord_46 : decode k_Qy_parseWord.1 46 = .ok (.goto (-41), 3) := by decide +kernel
theorem d_Qy_parseWord_49 : decode k_Qy_parseWord.1 49 = .ok (.iload 4, 2) := by decide +kernel
theorem d_Qy_parseWord_51 : decode k_Qy_parseWord.1 51 = .ok (.ifCond .eq 13, 3) := by decide +kernel
theorem d_Qy_parseWord_54 : decode k_Qy_parseWord.1 54 = .ok (.aload_n 0, 1) := by decide +kernel
theorem d_Qy_parseWord_55 : decode k_Qy_parseWord.1 55 = .ok (.invokevirtual 45, 3) := by decide +kernel
theorem d_Qy_parseWord_58 : decode k_Qy_parseWord.1 58 = .ok (.invokestatic 102, 3) := by decide +kernel
theorem d_Qy_parseWord_61 : decode k_Qy_parseWord.1 61 = .ok (.ifCond .eq 14, 3) := by decide +kernel
theorem d_Qy_parseWord_64 : decode k_Qy_parseWord.1 64 = .ok (.aload_n 0, 1) := by decide +kernel
theorem d_Qy_parseWord_65 : decode k_Qy_parseWord.1 65 = .ok (.aload_n 0, 1) := by decide +kernel
theorem d_Qy_parseWord_66 : decode k_Qy_parseWord.1 66 = .ok (.getfield 26, 3) := by decide +kernel
theorem d_Qy_parseWord_69 : decode k_Qy_parseWord.1 69 = .ok (.putfield 29, 3) := by decide +kernel
theorem d_Qy_parseWord_72 : decode k_Qy_parseWord.1 72 = .ok (.goto 8, 3) := by decide +kernel
theorem d_Qy_parseWord_75 : decode k_Qy_parseWord.1 75 = .ok (.aload_n 1, 1) := by decide +kernel
theorem d_Qy_parseWord_76 : decode k_Qy_parseWord.1 76 = .ok (.lload_n 2, 1) := by decide +kernel
theorem d_Qy_parseWord_77 : decode k_Qy_parseWord.1 77 = .ok (.invokevirtual 112, 3) := by decide +kernel
theorem d_Qy_parseWord_80 : decode k_Qy_parseWord.1 80 = .ok (.return_, 1) := by decide +kernel
theorem d_Qy_parseWordOrBeginning_0 : decode k_Qy_parseWordOrBeginning.1 0 = .ok (.aload_n 0, 1) := by decide +kernel
theorem d_Qy_parseWordOrBeginning_1 : decode k_Qy_parseWordOrBeginning.1 1 = .ok (.getfield 26, 3) := by decide +kernel
theorem d_Qy_parseWordOrBeginning_4 : decode k_Qy_parseWordOrBeginning.1 4 = .ok (.istore_n 2, 1) := by decide +kernel
theorem d_Qy_parseWordOrBeginning_5 : decode k_Qy_parseWordOrBeginning.1 5 = .ok (.aload_n 0, 1) := by decide +kernel
theorem d_Qy_parseWordOrBeginning_6 : decode k_Qy_parseWordOrBeginning.1 6 = .ok (.aload_n 1, 1) := by decide +kernel
theorem d_Qy_parseWordOrBeginning_7 : decode k_Qy_parseWordOrBeginning.1 7 = .ok (.invokevirtual 96, 3) := by decide +kernel
theorem d_Qy_parseWordOrBeginning_10 : decode k_Qy_parseWordOrBeginning.1 10 = .ok (.aload_n 0, 1) := by decide +kernel
theorem d_Qy_parseWordOrBeginning_11 : decode k_Qy_parseWordOrBeginning.1 11 = .ok (.invokevirtual 41, 3) := by decide +kernel
theorem d_Qy_parseWordOrBeginning_14 : decode k_Qy_parseWordOrBeginning.1 14 = .ok (.ifCond .ne 32, 3) := by decide +kernel
theorem d_Qy_parseWordOrBeginning_17 : decode k_Qy_parseWordOrBeginning.1 17 = .ok (.aload_n 0, 1) := by decide +kernel
theorem d_Qy_parseWordOrBeginning_18 : decode k_Qy_parseWordOrBeginning.1 18 = .ok (.invokevirtual 45, 3) := by decide +kernel
theorem d_Qy_parseWordOrBeginning_21 : decode k_Qy_parseWordOrBeginning.1 21 = .ok (.bipush 42, 2) := by decide +kernel
theorem d_Qy_parseWordOrBeginning_23 : decode k_Qy_parseWordOrBeginning.1 23 = .ok (.if_icmp .ne 23, 3) := by decide +kernel
theorem d_Qy_parseWordOrBeginning_26 : decode k_Qy_parseWordOrBeginning.1 26 = .ok (.aload_n 1, 1) := by decide +kernel
theorem d_Qy_parseWordOrBeginning_27 : decode k_Qy_parseWordOrBeginning.1 27 = .ok (.aload_n 0, 1) := by decide +kernel
theorem d_Qy_parseWordOrBeginning_28 : decode k_Qy_parseWordOrBeginning.1 28 = .ok (.getfield 26, 3) := by decide +kernel
theorem d_Qy_parseWordOrBeginning_31 : decode k_Qy_parseWordOrBeginning.1 31 = .ok (.iload_n 2, 1) := by decide +kernel
theorem d_Qy_parseWordOrBeginning_32 : decode k_Qy_parseWordOrBeginning.1 32 = .ok (.isub, 1) := by decide +kernel
theorem d_Qy_parseWordOrBeginning_33 : decode k_Qy_parseWordOrBeginning.1 33 = .ok (.invokevirtual 99, 3) := by decide +kernel
theorem d_Qy_parseWordOrBeginning_36 : decode k_Qy_parseWordOrBeginning.1 36 = .ok (.aload_n 0, 1) := by decide +kernel
theorem d_Qy_parseWordOrBeginning_37 : decode k_Qy_parseWordOrBeginning.1 37 = .ok (.dup, 1) := by decide +kernel
theorem d_Qy_parseWordOrBeginning_38 : decode k_Qy_parseWordOrBeginning.1 38 = .ok (.getfield 26, 3) := by decide +kernel
theorem d_Qy_parseWordOrBeginning_41 : decode k_Qy_parseWordOrBeginning.1 41 = .ok (.iconst 1, 1) := by decide +kernel
theorem d_Qy_parseWordOrBeginning_42 : decode k_Qy_parseWordOrBeginning.1 42 = .ok (.iadd, 1) := by decide +kernel
theorem d_Qy_parseWordOrBeginning_43 : decode k_Qy_parseWordOrBeginning.1 43 = .ok (.putfield 26, 3) := by decide +kernel
theorem d_Qy_parseWordOrBeginning_46 : decode k_Qy_parseWordOrBeginning.1 46 = .ok (.return_, 1) := by decide +kernel
theorem d_Qy_endTerm_0 : decode k_Qy_endTerm.1 0 = .ok (.aload_n 0, 1) := by decide +kernel
theorem d_Qy_endTerm_1 : decode k_Qy_endTerm.1 1 = .ok (.invokevirtual 45, 3) := by decide +kernel
theorem d_Qy_endTerm_4 : decode k_Qy_endTerm.1 4 = .ok (.bipush 32, 2) := by decide +kernel
theorem d_Qy_endTerm_6 : decode k_Qy_endTerm.1 6 = .ok (.if_icmp .eq 18, 3) := by decide +kernel
theorem d_Qy_endTerm_9 : decode k_Qy_endTerm.1 9 = .ok (.aload_n 0, 1) := by decide +kernel
theorem d_Qy_endTerm_10 : decode k_Qy_endTerm.1 10 = .ok (.invokevirtual 76, 3) := by decide +kernel
theorem d_Qy_endTerm_13 : decode k_Qy_endTerm.1 13 = .ok (.ifCond .ne 11, 3) := by decide +kernel
theorem d_Qy_endTerm_16 : decode k_Qy_endTerm.1 16 = .ok (.aload_n 0, 1) := by decide +kernel
theorem d_Qy_endTerm_17 : decode k_Qy_endTerm.1 17 = .ok (.aload_n 0, 1) := by decide +kernel
theorem d_Qy_endTerm_18 : decode k_Qy_endTerm.1 18 = .ok (.getfield 26, 3) := by decide +kernel
theorem d_Qy_endTerm_21 : decode k_Qy_endTerm.1 21 = .ok (.putfield 29, 3) := by decide +kernel
theorem d_Qy_endTerm_24 : decode k_Qy_endTerm.1 24 = .ok (.aload_n 0, 1) := by decide +kernel
theorem d_Qy_endTerm_25 : decode k_Qy_endTerm.1 25 = .ok (.invokevirtual 70, 3) := by decide +kernel
theorem d_Qy_endTerm_28 : decode k_Qy_endTerm.1 28 = .ok (.return_, 1) := by decide +kernel
theorem d_Qy_atAlternativeEnd_0 : decode k_Qy_atAlternativeEnd.1 0 = .ok (.aload_n 0, 1) := by decide +kernel
theorem d_Qy_atAlternativeEnd_1 : decode k_Qy_atAlternativeEnd.1 1 = .ok (.invokevirtual 45, 3) := by decide +kernel
theorem d_Qy_atAlternativeEnd_4 : decode k_Qy_atAlternativeEnd.1 4 = .ok (.ifCond .eq 12, 3) := by decide +kernel
theorem d_Qy_atAlternativeEnd_7 : decode k_Qy_atAlternativeEnd.1 7 = .ok (.aload_n 0, 1) := by decide +kernel
theorem d_Qy_atAlternativeEnd_8 : decode k_Qy_atAlternativeEnd.1 8 = .ok (.invokevirtual 45, 3) := by decide +kernel
theorem d_Qy_atAlternativeEnd_11 : decode k_Qy_atAlternativeEnd.1 11 = .ok (.bipush 124, 2) := by decide +kernel
theorem d_Qy_atAlternativeEnd_13 : decode k_Qy_atAlternativeEnd.1 13 = .ok (.if_icmp .ne 7, 3) := by decide +kernel
theorem d_Qy_atAlternativeEnd_16 : decode k_Qy_atAlternativeEnd.1 16 = .ok (.iconst 1, 1) := by decide +kernel
theorem d_Qy_atAlternativeEnd_17 : decode k_Qy_atAlternativeEnd.1 17 = .ok (.goto 4, 3) := by decide +kernel
theorem d_Qy_atAlternativeEnd_20 : decode k_Qy_atAlternativeEnd.1 20 = .ok (.iconst 0, 1) := by decide +kernel
theorem d_Qy_atAlternativeEnd_21 : decode k_Qy_atAlternativeEnd.1 21 = .ok (.ireturn, 1) := by decide +kernel
theorem d_Qy_clearText_0 : decode k_Qy_clearText.1 0 = .ok (.aload_n 0, 1) := by decide +kernel
theorem d_Qy_clearText_1 : decode k_Qy_clearText.1 1 = .ok (.iconst 0, 1) := by decide +kernel
theorem d_Qy_clearText_2 : decode k_Qy_clearText.1 2 = .ok (.putfield 22, 3) := by decide +kernel
theorem d_Qy_clearText_5 : decode k_Qy_clearText.1 5 = .ok (.return_, 1) := by decide +kernel
theorem d_Qy_scoreOf_0 : decode k_Qy_scoreOf.1 0 = .ok (.iconst (-1), 1) := by decide +kernel
theorem d_Qy_scoreOf_1 : decode k_Qy_scoreOf.1 1 = .ok (.istore_n 2, 1) := by decide +kernel
theorem d_Qy_scoreOf_2 : decode k_Qy_scoreOf.1 2 = .ok (.iconst 0, 1) := by decide +kernel
theorem d_Qy_scoreOf_3 : decode k_Qy_scoreOf.1 3 = .ok (.istore_n 3, 1) := by decide +kernel
theorem d_Qy_scoreOf_4 : decode k_Qy_scoreOf.1 4 = .ok (.iload_n 3, 1) := by decide +kernel
theorem d_Qy_scoreOf_5 : decode k_Qy_scoreOf.1 5 = .ok (.aload_n 0, 1) := by decide +kernel
theorem d_Qy_scoreOf_6 : decode k_Qy_scoreOf.1 6 = .ok (.getfield 35, 3) := by decide +kernel
theorem d_Qy_scoreOf_9 : decode k_Qy_scoreOf.1 9 = .ok (.if_icmp .ge 32, 3) := by decide +kernel
theorem d_Qy_scoreOf_12 : decode k_Qy_scoreOf.1 12 = .ok (.aload_n 0, 1) := by decide +kernel
theorem d_Qy_scoreOf_13 : decode k_Qy_scoreOf.1 13 = .ok (.aload_n 1, 1) := by decide +kernel
theorem d_Qy_scoreOf_14 : decode k_Qy_scoreOf.1 14 = .ok (.iload_n 3, 1) := by decide +kernel
theorem d_Qy_scoreOf_15 : decode k_Qy_scoreOf.1 15 = .ok (.invokevirtual 49, 3) := by decide +kernel
theorem d_Qy_scoreOf_18 : decode k_Qy_scoreOf.1 18 = .ok (.istore 4, 2) := by decide +kernel
theorem d_Qy_scoreOf_20 : decode k_Qy_scoreOf.1 20 = .ok (.iload 4, 2) := by decide +kernel
theorem d_Qy_scoreOf_22 : decode k_Qy_scoreOf.1 22 = .ok (.iconst (-1), 1) := by decide +kernel
theorem d_Qy_scoreOf_23 : decode k_Qy_scoreOf.1 23 = .ok (.if_icmp .eq 12, 3) := by decide +kernel
theorem d_Qy_scoreOf_26 : decode k_Qy_scoreOf.1 26 = .ok (.iload_n 2, 1) := by decide +kernel
theorem d_Qy_scoreOf_27 : decode k_Qy_scoreOf.1 27 = .ok (.iconst 0, 1) := by decide +kernel
theorem d_Qy_scoreOf_28 : decode k_Qy_scoreOf.1 28 = .ok (.invokestatic 53, 3) := by decide +kernel
theorem d_Qy_scoreOf_31 : decode k_Qy_scoreOf.1 31 = .ok (.iload 4, 2) := by decide +kernel
theorem d_Qy_scoreOf_33 : decode k_Qy_scoreOf.1 33 = .ok (.iadd, 1) := by decide +kernel
theorem d_Qy_scoreOf_34 : decode k_Qy_scoreOf.1 34 = .ok (.istore_n 2, 1) := by decide +kernel
theorem d_Qy_scoreOf_35 : decode k_Qy_scoreOf.1 35 = .ok (.iinc 3 1, 3) := by decide +kernel
theorem d_Qy_scoreOf_38 : decode k_Qy_scoreOf.1 38 = .ok (.goto (-34), 3) := by decide +kernel
theorem d_Qy_scoreOf_41 : decode k_Qy_scoreOf.1 41 = .ok (.iload_n 2, 1) := by decide +kernel
theorem d_Qy_scoreOf_42 : decode k_Qy_scoreOf.1 42 = .ok (.ireturn, 1) := by decide +kernel
theorem d_Qy_partOf_0 : decode k_Qy_partOf.1 0 = .ok (.iconst 0, 1) := by decide +kernel
theorem d_Qy_partOf_1 : decode k_Qy_partOf.1 1 = .ok (.istore_n 3, 1) := by decide +kernel
theorem d_Qy_partOf_2 : decode k_Qy_partOf.1 2 = .ok (.iconst 0, 1) := by decide +kernel
theorem d_Qy_partOf_3 : decode k_Qy_partOf.1 3 = .ok (.istore 4, 2) := by decide +kernel
theorem d_Qy_partOf_5 : decode k_Qy_partOf.1 5 = .ok (.iload 4, 2) := by decide +kernel
theorem d_Qy_partOf_7 : decode k_Qy_partOf.1 7 = .ok (.aload_n 0, 1) := by decide +kernel
theorem d_Qy_partOf_8 : decode k_Qy_partOf.1 8 = .ok (.getfield 32, 3) := by decide +kernel
theorem d_Qy_partOf_11 : decode k_Qy_partOf.1 11 = .ok (.if_icmp .ge 70, 3) := by decide +kernel
theorem d_Qy_partOf_14 : decode k_Qy_partOf.1 14 = .ok (.aload_n 0, 1) := by decide +kernel
theorem d_Qy_partOf_15 : decode k_Qy_partOf.1 15 = .ok (.getfield 17, 3) := by decide +kernel
theorem d_Qy_partOf_18 : decode k_Qy_partOf.1 18 = .ok (.iload 4, 2) := by decide +kernel
theorem d_Qy_partOf_20 : decode k_Qy_partOf.1 20 = .ok (.aaload, 1) := by decide +kernel
theorem d_Qy_partOf_21 : decode k_Qy_partOf.1 21 = .ok (.iload_n 2, 1) := by decide +kernel
theorem d_Qy_partOf_22 : decode k_Qy_partOf.1 22 = .ok (.invokevirtual 59, 3) := by decide +kernel
theorem d_Qy_partOf_25 : decode k_Qy_partOf.1 25 = .ok (.ifCond .eq 50, 3) := by decide +kernel
theorem d_Qy_partOf_28 : decode k_Qy_partOf.1 28 = .ok (.aload_n 0, 1) := by decide +kernel
theorem d_Qy_partOf_29 : decode k_Qy_partOf.1 29 = .ok (.getfield 17, 3) := by decide +kernel
theorem d_Qy_partOf_32 : decode k_Qy_partOf.1 32 = .ok (.iload 4, 2) := by decide +kernel
theorem d_Qy_partOf_34 : decode k_Qy_partOf.1 34 = .ok (.aaload, 1) := by decide +kernel
theorem d_Qy_partOf_35 : decode k_Qy_partOf.1 35 = .ok (.aload_n 1, 1) := by decide +kernel
theorem d_Qy_partOf_36 : decode k_Qy_partOf.1 36 = .ok (.invokevirtual 63, 3) := by decide +kernel
theorem d_Qy_partOf_39 : decode k_Qy_partOf.1 39 = .ok (.istore 5, 2) := by decide +kernel
theorem d_Qy_partOf_41 : decode k_Qy_partOf.1 41 = .ok (.iload 5, 2) := by decide +kernel
theorem d_Qy_partOf_43 : decode k_Qy_partOf.1 43 = .ok (.ifCond .le 7, 3) := by decide +kernel
theorem d_Qy_partOf_46 : decode k_Qy_partOf.1 46 = .ok (.iconst 1, 1) := by decide +kernel
theorem d_Qy_partOf_47 : decode k_Qy_partOf.1 47 = .ok (.goto 4, 3) := by decide +kernel
theorem d_Qy_partOf_50 : decode k_Qy_partOf.1 50 = .ok (.iconst 0, 1) := by decide +kernel
theorem d_Qy_partOf_51 : decode k_Qy_partOf.1 51 = .ok (.istore 6, 2) := by decide +kernel
theorem d_Qy_partOf_53 : decode k_Qy_partOf.1 53 = .ok (.iload 6, 2) := by decide +kernel
theorem d_Qy_partOf_55 : decode k_Qy_partOf.1 55 = .ok (.aload_n 0, 1) := by decide +kernel
theorem d_Qy_partOf_56 : decode k_Qy_partOf.1 56 = .ok (.getfield 17, 3) := by decide +kernel
theorem d_Qy_partOf_59 : decode k_Qy_partOf.1 59 = .ok (.iload 4, 2) := by decide +kernel
theorem d_Qy_partOf_61 : decode k_Qy_partOf.1 61 = .ok (.aaload, 1) := by decide +kernel
theorem d_Qy_partOf_62 : decode k_Qy_partOf.1 62 = .ok (.invokevirtual 67, 3) := by decide +kernel
theorem d_Qy_partOf_65 : decode k_Qy_partOf.1 65 = .ok (.if_icmp .ne 5, 3) := by decide +kernel
theorem d_Qy_partOf_68 : decode k_Qy_partOf.1 68 = .ok (.iconst (-1), 1) := by decide +kernel
theorem d_Qy_partOf_69 : decode k_Qy_partOf.1 69 = .ok (.ireturn, 1) := by decide +kernel
theorem d_Qy_partOf_70 : decode k_Qy_partOf.1 70 = .ok (.iload_n 3, 1) := by decide +kernel
theorem d_Qy_partOf_71 : decode k_Qy_partOf.1 71 = .ok (.iload 5, 2) := by decide +kernel
theorem d_Qy_partOf_73 : decode k_Qy_partOf.1 73 = .ok (.iadd, 1) := by decide +kernel
theorem d_Qy_partOf_74 : decode k_Qy_partOf.1 74 = .ok (.istore_n 3, 1) := by decide +kernel
theorem d_Qy_partOf_75 : decode k_Qy_partOf.1 75 = .ok (.iinc 4 1, 3) := by decide +kernel
theorem d_Qy_partOf_78 : decode k_Qy_partOf.1 78 = .ok (.goto (-73), 3) := by decide +kernel
theorem d_Qy_partOf_81 : decode k_Qy_partOf.1 81 = .ok (.iload_n 3, 1) := by decide +kernel
theorem d_Qy_partOf_82 : decode k_Qy_partOf.1 82 = .ok (.ireturn, 1) := by decide +kernel
