theorem d_Ix_init_0 : decode k_Ix_init.1 0 = .ok (.aload_n 0, 1) := by decide +kernel
theorem d_Ix_init_1 : decode k_Ix_init.1 1 = .ok (.invokespecial 3, 3) := by decide +kernel
theorem d_Ix_init_4 : decode k_Ix_init.1 4 = .ok (.aload_n 0, 1) := by decide +kernel
theorem d_Ix_init_5 : decode k_Ix_init.1 5 = .ok (.bipush 16, 2) := by decide +kernel
theorem d_Ix_init_7 : decode k_Ix_init.1 7 = .ok (.anewarray 9, 3) := by decide +kernel
theorem d_Ix_init_10 : decode k_Ix_init.1 10 = .ok (.putfield 11, 3) := by decide +kernel
theorem d_Ix_init_13 : decode k_Ix_init.1 13 = .ok (.aload_n 0, 1) := by decide +kernel
theorem d_Ix_init_14 : decode k_Ix_init.1 14 = .ok (.bipush 16, 2) := by decide +kernel
theorem d_Ix_init_16 : decode k_Ix_init.1 16 = .ok (.newarray .boolean, 2) := by decide +kernel
theorem d_Ix_init_18 : decode k_Ix_init.1 18 = .ok (.putfield 17, 3) := by decide +kernel
theorem d_Ix_init_21 : decode k_Ix_init.1 21 = .ok (.iconst 0, 1) := by decide +kernel
theorem d_Ix_init_22 : decode k_Ix_init.1 22 = .ok (.istore_n 1, 1) := by decide +kernel
theorem d_Ix_init_23 : decode k_Ix_init.1 23 = .ok (.iload_n 1, 1) := by decide +kernel
theorem d_Ix_init_24 : decode k_Ix_init.1 24 = .ok (.bipush 16, 2) := by decide +kernel
theorem d_Ix_init_26 : decode k_Ix_init.1 26 = .ok (.if_icmp .ge 22, 3) := by decide +kernel
theorem d_Ix_init_29 : decode k_Ix_init.1 29 = .ok (.aload_n 0, 1) := by decide +kernel
theorem d_Ix_init_30 : decode k_Ix_init.1 30 = .ok (.getfield 11, 3) := by decide +kernel
theorem d_Ix_init_33 : decode k_Ix_init.1 33 = .ok (.iload_n 1, 1) := by decide +kernel
theorem d_Ix_init_34 : decode k_Ix_init.1 34 = .ok (.new 9, 3) := by decide +kernel
theorem d_Ix_init_37 : decode k_Ix_init.1 37 = .ok (.dup, 1) := by decide +kernel
theorem d_Ix_init_38 : decode k_Ix_init.1 38 = .ok (.invokespecial 21, 3) := by decide +kernel
theorem d_Ix_init_41 : decode k_Ix_init.1 41 = .ok (.aastore, 1) := by decide +kernel
theorem d_Ix_init_42 : decode k_Ix_init.1 42 = .ok (.iinc 1 1, 3) := by decide +kernel
theorem d_Ix_init_45 : decode k_Ix_init.1 45 = .ok (.goto (-22), 3) := by decide +kernel
theorem d_Ix_init_48 : decode k_Ix_init.1 48 = .ok (.return_, 1) := by decide +kernel
theorem d_Ix_read_0 : decode k_Ix_read.1 0 = .ok (.aload_n 0, 1) := by decide +kernel
theorem d_Ix_read_1 : decode k_Ix_read.1 1 = .ok (.getfield 11, 3) := by decide +kernel
theorem d_Ix_read_4 : decode k_Ix_read.1 4 = .ok (.iload_n 1, 1) := by decide +kernel
theorem d_Ix_read_5 : decode k_Ix_read.1 5 = .ok (.aaload, 1) := by decide +kernel
theorem d_Ix_read_6 : decode k_Ix_read.1 6 = .ok (.aload_n 2, 1) := by decide +kernel
theorem d_Ix_read_7 : decode k_Ix_read.1 7 = .ok (.iload_n 3, 1) := by decide +kernel
theorem d_Ix_read_8 : decode k_Ix_read.1 8 = .ok (.invokevirtual 26, 3) := by decide +kernel
theorem d_Ix_read_11 : decode k_Ix_read.1 11 = .ok (.aload_n 0, 1) := by decide +kernel
theorem d_Ix_read_12 : decode k_Ix_read.1 12 = .ok (.getfield 17, 3) := by decide +kernel
theorem d_Ix_read_15 : decode k_Ix_read.1 15 = .ok (.iload_n 1, 1) := by decide +kernel
theorem d_Ix_read_16 : decode k_Ix_read.1 16 = .ok (.iconst 1, 1) := by decide +kernel
theorem d_Ix_read_17 : decode k_Ix_read.1 17 = .ok (.bastore, 1) := by decide +kernel
theorem d_Ix_read_18 : decode k_Ix_read.1 18 = .ok (.aload_n 0, 1) := by decide +kernel
theorem d_Ix_read_19 : decode k_Ix_read.1 19 = .ok (.dup, 1) := by decide +kernel
theorem d_Ix_read_20 : decode k_Ix_read.1 20 = .ok (.getfield 30, 3) := by decide +kernel
theorem d_Ix_read_23 : decode k_Ix_read.1 23 = .ok (.iconst 1, 1) := by decide +kernel
theorem d_Ix_read_24 : decode k_Ix_read.1 24 = .ok (.iadd, 1) := by decide +kernel
theorem d_Ix_read_25 : decode k_Ix_read.1 25 = .ok (.putfield 30, 3) := by decide +kernel
theorem d_Ix_read_28 : decode k_Ix_read.1 28 = .ok (.return_, 1) := by decide +kernel
theorem d_Ix_forget_0 : decode k_Ix_forget.1 0 = .ok (.aload_n 0, 1) := by decide +kernel
theorem d_Ix_forget_1 : decode k_Ix_forget.1 1 = .ok (.getfield 17, 3) := by decide +kernel
theorem d_Ix_forget_4 : decode k_Ix_forget.1 4 = .ok (.iload_n 1, 1) := by decide +kernel
theorem d_Ix_forget_5 : decode k_Ix_forget.1 5 = .ok (.iconst 0, 1) := by decide +kernel
theorem d_Ix_forget_6 : decode k_Ix_forget.1 6 = .ok (.bastore, 1) := by decide +kernel
theorem d_Ix_forget_7 : decode k_Ix_forget.1 7 = .ok (.return_, 1) := by decide +kernel
theorem d_Ix_has_0 : decode k_Ix_has.1 0 = .ok (.iload_n 1, 1) := by decide +kernel
theorem d_Ix_has_1 : decode k_Ix_has.1 1 = .ok (.invokestatic 22, 3) := by decide +kernel
theorem d_Ix_has_4 : decode k_Ix_has.1 4 = .ok (.ifCond .eq 16, 3) := by decide +kernel
theorem d_Ix_has_7 : decode k_Ix_has.1 7 = .ok (.aload_n 0, 1) := by decide +kernel
theorem d_Ix_has_8 : decode k_Ix_has.1 8 = .ok (.getfield 17, 3) := by decide +kernel
theorem d_Ix_has_11 : decode k_Ix_has.1 11 = .ok (.iload_n 1, 1) := by decide +kernel
theorem d_Ix_has_12 : decode k_Ix_has.1 12 = .ok (.baload, 1) := by decide +kernel
theorem d_Ix_has_13 : decode k_Ix_has.1 13 = .ok (.ifCond .eq 7, 3) := by decide +kernel
theorem d_Ix_has_16 : decode k_Ix_has.1 16 = .ok (.iconst 1, 1) := by decide +kernel
theorem d_Ix_has_17 : decode k_Ix_has.1 17 = .ok (.goto 4, 3) := by decide +kernel
theorem d_Ix_has_20 : decode k_Ix_has.1 20 = .ok (.iconst 0, 1) := by decide +kernel
theorem d_Ix_has_21 : decode k_Ix_has.1 21 = .ok (.ireturn, 1) := by decide +kernel
theorem d_Ix_entryOf_0 : decode k_Ix_entryOf.1 0 = .ok (.aload_n 0, 1) := by decide +kernel
theorem d_Ix_entryOf_1 : decode k_Ix_entryOf.1 1 = .ok (.getfield 11, 3) := by decide +kernel
theorem d_Ix_entryOf_4 : decode k_Ix_entryOf.1 4 = .ok (.iload_n 1, 1) := by decide +kernel
theorem d_Ix_entryOf_5 : decode k_Ix_entryOf.1 5 = .ok (.aaload, 1) := by decide +kernel
theorem d_Ix_entryOf_6 : decode k_Ix_entryOf.1 6 = .ok (.areturn, 1) := by decide +kernel
theorem d_Ix_size_0 : decode k_Ix_size.1 0 = .ok (.iconst 0, 1) := by decide +kernel
theorem d_Ix_size_1 : decode k_Ix_size.1 1 = .ok (.istore_n 1, 1) := by decide +kernel
theorem d_Ix_size_2 : decode k_Ix_size.1 2 = .ok (.iconst 0, 1) := by decide +kernel
theorem d_Ix_size_3 : decode k_Ix_size.1 3 = .ok (.istore_n 2, 1) := by decide +kernel
theorem d_Ix_size_4 : decode k_Ix_size.1 4 = .ok (.iload_n 2, 1) := by decide +kernel
theorem d_Ix_size_5 : decode k_Ix_size.1 5 = .ok (.bipush 16, 2) := by decide +kernel
theorem d_Ix_size_7 : decode k_Ix_size.1 7 = .ok (.if_icmp .ge 26, 3) := by decide +kernel
theorem d_Ix_size_10 : decode k_Ix_size.1 10 = .ok (.iload_n 1, 1) := by decide +kernel
theorem d_Ix_size_11 : decode k_Ix_size.1 11 = .ok (.aload_n 0, 1) := by decide +kernel
theorem d_Ix_size_12 : decode k_Ix_size.1 12 = .ok (.getfield 17, 3) := by decide +kernel
theorem d_Ix_size_15 : decode k_Ix_size.1 15 = .ok (.iload_n 2, 1) := by decide +kernel
theorem d_Ix_size_16 : decode k_Ix_size.1 16 = .ok (.baload, 1) := by decide +kernel
theorem d_Ix_size_17 : decode k_Ix_size.1 17 = .ok (.ifCond .eq 7, 3) := by decide +kernel
theorem d_Ix_size_20 : decode k_Ix_size.1 20 = .ok (.iconst 1, 1) := by decide +kernel
theorem d_Ix_size_21 : decode k_Ix_size.1 21 = .ok (.goto 4, 3) := by decide +kernel
theorem d_Ix_size_24 : decode k_Ix_size.1 24 = .ok (.iconst 0, 1) := by decide +kernel
theorem d_Ix_size_25 : decode k_Ix_size.1 25 = .ok (.iadd, 1) := by decide +kernel
theorem d_Ix_size_26 : decode k_Ix_size.1 26 = .ok (.istore_n 1, 1) := by decide +kernel
theorem d_Ix_size_27 : decode k_Ix_size.1 27 = .ok (.iinc 2 1, 3) := by decide +kernel
theorem d_Ix_size_30 : decode k_Ix_size.1 30 = .ok (.goto (-26), 3) := by decide +kernel
theorem d_Ix_size_33 : decode k_Ix_size.1 33 = .ok (.iload_n 1, 1) := by decide +kernel
theorem d_Ix_size_34 : decode k_Ix_size.1 34 = .ok (.ireturn, 1) := by decide +kernel
theorem d_Ix_timesRead_0 : decode k_Ix_timesRead.1 0 = .ok (.aload_n 0, 1) := by decide +kernel
theorem d_Ix_timesRead_1 : decode k_Ix_timesRead.1 1 = .ok (.getfield 30, 3) := by decide +kernel
theorem d_Ix_timesRead_4 : decode k_Ix_timesRead.1 4 = .ok (.ireturn, 1) := by decide +kernel
