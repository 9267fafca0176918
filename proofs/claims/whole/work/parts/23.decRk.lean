theorem d_Rk_init_0 : decode k_Rk_init.1 0 = .ok (.aload_n 0, 1) := by decide +kernel
theorem d_Rk_init_1 : decode k_Rk_init.1 1 = .ok (.invokespecial 3, 3) := by decide +kernel
theorem d_Rk_init_4 : decode k_Rk_init.1 4 = .ok (.aload_n 0, 1) := by decide +kernel
theorem d_Rk_init_5 : decode k_Rk_init.1 5 = .ok (.bipush 16, 2) := by decide +kernel
theorem d_Rk_init_7 : decode k_Rk_init.1 7 = .ok (.newarray .int, 2) := by decide +kernel
theorem d_Rk_init_9 : decode k_Rk_init.1 9 = .ok (.putfield 9, 3) := by decide +kernel
theorem d_Rk_init_12 : decode k_Rk_init.1 12 = .ok (.aload_n 0, 1) := by decide +kernel
theorem d_Rk_init_13 : decode k_Rk_init.1 13 = .ok (.bipush 16, 2) := by decide +kernel
theorem d_Rk_init_15 : decode k_Rk_init.1 15 = .ok (.newarray .int, 2) := by decide +kernel
theorem d_Rk_init_17 : decode k_Rk_init.1 17 = .ok (.putfield 15, 3) := by decide +kernel
theorem d_Rk_init_20 : decode k_Rk_init.1 20 = .ok (.return_, 1) := by decide +kernel
theorem d_Rk_clear_0 : decode k_Rk_clear.1 0 = .ok (.aload_n 0, 1) := by decide +kernel
theorem d_Rk_clear_1 : decode k_Rk_clear.1 1 = .ok (.iconst 0, 1) := by decide +kernel
theorem d_Rk_clear_2 : decode k_Rk_clear.1 2 = .ok (.putfield 18, 3) := by decide +kernel
theorem d_Rk_clear_5 : decode k_Rk_clear.1 5 = .ok (.return_, 1) := by decide +kernel
theorem d_Rk_add_0 : decode k_Rk_add.1 0 = .ok (.aload_n 0, 1) := by decide +kernel
theorem d_Rk_add_1 : decode k_Rk_add.1 1 = .ok (.getfield 18, 3) := by decide +kernel
theorem d_Rk_add_4 : decode k_Rk_add.1 4 = .ok (.istore_n 3, 1) := by decide +kernel
theorem d_Rk_add_5 : decode k_Rk_add.1 5 = .ok (.iload_n 3, 1) := by decide +kernel
theorem d_Rk_add_6 : decode k_Rk_add.1 6 = .ok (.ifCond .le 49, 3) := by decide +kernel
theorem d_Rk_add_9 : decode k_Rk_add.1 9 = .ok (.aload_n 0, 1) := by decide +kernel
theorem d_Rk_add_10 : decode k_Rk_add.1 10 = .ok (.getfield 15, 3) := by decide +kernel
theorem d_Rk_add_13 : decode k_Rk_add.1 13 = .ok (.iload_n 3, 1) := by decide +kernel
theorem d_Rk_add_14 : decode k_Rk_add.1 14 = .ok (.iconst 1, 1) := by decide +kernel
theorem d_Rk_add_15 : decode k_Rk_add.1 15 = .ok (.isub, 1) := by decide +kernel
theorem d_Rk_add_16 : decode k_Rk_add.1 16 = .ok (.iaload, 1) := by decide +kernel
theorem d_Rk_add_17 : decode k_Rk_add.1 17 = .ok (.iload_n 2, 1) := by decide +kernel
theorem d_Rk_add_18 : decode k_Rk_add.1 18 = .ok (.if_icmp .ge 37, 3) := by decide +kernel
theorem d_Rk_add_21 : decode k_Rk_add.1 21 = .ok (.aload_n 0, 1) := by decide +kernel
theorem d_Rk_add_22 : decode k_Rk_add.1 22 = .ok (.getfield 9, 3) := by decide +kernel
theorem d_Rk_add_25 : decode k_Rk_add.1 25 = .ok (.iload_n 3, 1) := by decide +kernel
theorem d_Rk_add_26 : decode k_Rk_add.1 26 = .ok (.aload_n 0, 1) := by decide +kernel
theorem d_Rk_add_27 : decode k_Rk_add.1 27 = .ok (.getfield 9, 3) := by decide +kernel
theorem d_Rk_add_30 : decode k_Rk_add.1 30 = .ok (.iload_n 3, 1) := by decide +kernel
theorem d_Rk_add_31 : decode k_Rk_add.1 31 = .ok (.iconst 1, 1) := by decide +kernel
theorem d_Rk_add_32 : decode k_Rk_add.1 32 = .ok (.isub, 1) := by decide +kernel
theorem d_Rk_add_33 : decode k_Rk_add.1 33 = .ok (.iaload, 1) := by decide +kernel
theorem d_Rk_add_34 : decode k_Rk_add.1 34 = .ok (.iastore, 1) := by decide +kernel
theorem d_Rk_add_35 : decode k_Rk_add.1 35 = .ok (.aload_n 0, 1) := by decide +kernel
theorem d_Rk_add_36 : decode k_Rk_add.1 36 = .ok (.getfield 15, 3) := by decide +kernel
theorem d_Rk_add_39 : decode k_Rk_add.1 39 = .ok (.iload_n 3, 1) := by decide +kernel
theorem d_Rk_add_40 : decode k_Rk_add.1 40 = .ok (.aload_n 0, 1) := by decide +kernel
theorem d_Rk_add_41 : decode k_Rk_add.1 41 = .ok (.getfield 15, 3) := by decide +kernel
theorem d_Rk_add_44 : decode k_Rk_add.1 44 = .ok (.iload_n 3, 1) := by decide +kernel
theorem d_Rk_add_45 : decode k_Rk_add.1 45 = .ok (.iconst 1, 1) := by decide +kernel
theorem d_Rk_add_46 : decode k_Rk_add.1 46 = .ok (.isub, 1) := by decide +kernel
theorem d_Rk_add_47 : decode k_Rk_add.1 47 = .ok (.iaload, 1) := by decide +kernel
theorem d_Rk_add_48 : decode k_Rk_add.1 48 = .ok (.iastore, 1) := by decide +kernel
theorem d_Rk_add_49 : decode k_Rk_add.1 49 = .ok (.iinc 3 (-1), 3) := by decide +kernel
theorem d_Rk_add_52 : decode k_Rk_add.1 52 = .ok (.goto (-47), 3) := by decide +kernel
theorem d_Rk_add_55 : decode k_Rk_add.1 55 = .ok (.aload_n 0, 1) := by decide +kernel
theorem d_Rk_add_56 : decode k_Rk_add.1 56 = .ok (.getfield 9, 3) := by decide +kernel
theorem d_Rk_add_59 : decode k_Rk_add.1 59 = .ok (.iload_n 3, 1) := by decide +kernel
theorem d_Rk_add_60 : decode k_Rk_add.1 60 = .ok (.iload_n 1, 1) := by decide +kernel
theorem d_Rk_add_61 : decode k_Rk_add.1 61 = .ok (.iastore, 1) := by decide +kernel
theorem d_Rk_add_62 : decode k_Rk_add.1 62 = .ok (.aload_n 0, 1) := by decide +kernel
theorem d_Rk_add_63 : decode k_Rk_add.1 63 = .ok (.getfield 15, 3) := by decide +kernel
theorem d_Rk_add_66 : decode k_Rk_add.1 66 = .ok (.iload_n 3, 1) := by decide +kernel
theorem d_Rk_add_67 : decode k_Rk_add.1 67 = .ok (.iload_n 2, 1) := by decide +kernel
theorem d_Rk_add_68 : decode k_Rk_add.1 68 = .ok (.iastore, 1) := by decide +kernel
theorem d_Rk_add_69 : decode k_Rk_add.1 69 = .ok (.aload_n 0, 1) := by decide +kernel
theorem d_Rk_add_70 : decode k_Rk_add.1 70 = .ok (.dup, 1) := by decide +kernel
theorem d_Rk_add_71 : decode k_Rk_add.1 71 = .ok (.getfield 18, 3) := by decide +kernel
theorem d_Rk_add_74 : decode k_Rk_add.1 74 = .ok (.iconst 1, 1) := by decide +kernel
theorem d_Rk_add_75 : decode k_Rk_add.1 75 = .ok (.iadd, 1) := by decide +kernel
theorem d_Rk_add_76 : decode k_Rk_add.1 76 = .ok (.putfield 18, 3) := by decide +kernel
theorem d_Rk_add_79 : decode k_Rk_add.1 79 = .ok (.return_, 1) := by decide +kernel
theorem d_Rk_size_0 : decode k_Rk_size.1 0 = .ok (.aload_n 0, 1) := by decide +kernel
theorem d_Rk_size_1 : decode k_Rk_size.1 1 = .ok (.getfield 18, 3) := by decide +kernel
theorem d_Rk_size_4 : decode k_Rk_size.1 4 = .ok (.ireturn, 1) := by decide +kernel
theorem d_Rk_fileAt_0 : decode k_Rk_fileAt.1 0 = .ok (.aload_n 0, 1) := by decide +kernel
theorem d_Rk_fileAt_1 : decode k_Rk_fileAt.1 1 = .ok (.getfield 9, 3) := by decide +kernel
theorem d_Rk_fileAt_4 : decode k_Rk_fileAt.1 4 = .ok (.iload_n 1, 1) := by decide +kernel
theorem d_Rk_fileAt_5 : decode k_Rk_fileAt.1 5 = .ok (.iaload, 1) := by decide +kernel
theorem d_Rk_fileAt_6 : decode k_Rk_fileAt.1 6 = .ok (.ireturn, 1) := by decide +kernel
theorem d_Rk_scoreAt_0 : decode k_Rk_scoreAt.1 0 = .ok (.aload_n 0, 1) := by decide +kernel
theorem d_Rk_scoreAt_1 : decode k_Rk_scoreAt.1 1 = .ok (.getfield 15, 3) := by decide +kernel
theorem d_Rk_scoreAt_4 : decode k_Rk_scoreAt.1 4 = .ok (.iload_n 1, 1) := by decide +kernel
theorem d_Rk_scoreAt_5 : decode k_Rk_scoreAt.1 5 = .ok (.iaload, 1) := by decide +kernel
theorem d_Rk_scoreAt_6 : decode k_Rk_scoreAt.1 6 = .ok (.ireturn, 1) := by decide +kernel
