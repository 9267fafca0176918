theorem d_Tm_init_0 : decode k_Tm_init.1 0 = .ok (.aload_n 0, 1) := by decide +kernel
theorem d_Tm_init_1 : decode k_Tm_init.1 1 = .ok (.invokespecial 3, 3) := by decide +kernel
theorem d_Tm_init_4 : decode k_Tm_init.1 4 = .ok (.aload_n 0, 1) := by decide +kernel
theorem d_Tm_init_5 : decode k_Tm_init.1 5 = .ok (.iconst 4, 1) := by decide +kernel
theorem d_Tm_init_6 : decode k_Tm_init.1 6 = .ok (.newarray .long, 2) := by decide +kernel
theorem d_Tm_init_8 : decode k_Tm_init.1 8 = .ok (.putfield 9, 3) := by decide +kernel
theorem d_Tm_init_11 : decode k_Tm_init.1 11 = .ok (.return_, 1) := by decide +kernel
theorem d_Tm_begin_0 : decode k_Tm_begin.1 0 = .ok (.aload_n 0, 1) := by decide +kernel
theorem d_Tm_begin_1 : decode k_Tm_begin.1 1 = .ok (.iconst 0, 1) := by decide +kernel
theorem d_Tm_begin_2 : decode k_Tm_begin.1 2 = .ok (.putfield 15, 3) := by decide +kernel
theorem d_Tm_begin_5 : decode k_Tm_begin.1 5 = .ok (.aload_n 0, 1) := by decide +kernel
theorem d_Tm_begin_6 : decode k_Tm_begin.1 6 = .ok (.iload_n 1, 1) := by decide +kernel
theorem d_Tm_begin_7 : decode k_Tm_begin.1 7 = .ok (.putfield 19, 3) := by decide +kernel
theorem d_Tm_begin_10 : decode k_Tm_begin.1 10 = .ok (.aload_n 0, 1) := by decide +kernel
theorem d_Tm_begin_11 : decode k_Tm_begin.1 11 = .ok (.iconst 0, 1) := by decide +kernel
theorem d_Tm_begin_12 : decode k_Tm_begin.1 12 = .ok (.putfield 22, 3) := by decide +kernel
theorem d_Tm_begin_15 : decode k_Tm_begin.1 15 = .ok (.aload_n 0, 1) := by decide +kernel
theorem d_Tm_begin_16 : decode k_Tm_begin.1 16 = .ok (.ldc2_w 26, 3) := by decide +kernel
theorem d_Tm_begin_19 : decode k_Tm_begin.1 19 = .ok (.putfield 28, 3) := by decide +kernel
theorem d_Tm_begin_22 : decode k_Tm_begin.1 22 = .ok (.return_, 1) := by decide +kernel
theorem d_Tm_forbid_0 : decode k_Tm_forbid.1 0 = .ok (.aload_n 0, 1) := by decide +kernel
theorem d_Tm_forbid_1 : decode k_Tm_forbid.1 1 = .ok (.iconst 1, 1) := by decide +kernel
theorem d_Tm_forbid_2 : decode k_Tm_forbid.1 2 = .ok (.putfield 22, 3) := by decide +kernel
theorem d_Tm_forbid_5 : decode k_Tm_forbid.1 5 = .ok (.return_, 1) := by decide +kernel
theorem d_Tm_add_0 : decode k_Tm_add.1 0 = .ok (.aload_n 0, 1) := by decide +kernel
theorem d_Tm_add_1 : decode k_Tm_add.1 1 = .ok (.getfield 9, 3) := by decide +kernel
theorem d_Tm_add_4 : decode k_Tm_add.1 4 = .ok (.aload_n 0, 1) := by decide +kernel
theorem d_Tm_add_5 : decode k_Tm_add.1 5 = .ok (.getfield 15, 3) := by decide +kernel
theorem d_Tm_add_8 : decode k_Tm_add.1 8 = .ok (.lload_n 1, 1) := by decide +kernel
theorem d_Tm_add_9 : decode k_Tm_add.1 9 = .ok (.lastore, 1) := by decide +kernel
theorem d_Tm_add_10 : decode k_Tm_add.1 10 = .ok (.aload_n 0, 1) := by decide +kernel
theorem d_Tm_add_11 : decode k_Tm_add.1 11 = .ok (.dup, 1) := by decide +kernel
theorem d_Tm_add_12 : decode k_Tm_add.1 12 = .ok (.getfield 15, 3) := by decide +kernel
theorem d_Tm_add_15 : decode k_Tm_add.1 15 = .ok (.iconst 1, 1) := by decide +kernel
theorem d_Tm_add_16 : decode k_Tm_add.1 16 = .ok (.iadd, 1) := by decide +kernel
theorem d_Tm_add_17 : decode k_Tm_add.1 17 = .ok (.putfield 15, 3) := by decide +kernel
theorem d_Tm_add_20 : decode k_Tm_add.1 20 = .ok (.return_, 1) := by decide +kernel
theorem d_Tm_isEmpty_0 : decode k_Tm_isEmpty.1 0 = .ok (.aload_n 0, 1) := by decide +kernel
theorem d_Tm_isEmpty_1 : decode k_Tm_isEmpty.1 1 = .ok (.getfield 15, 3) := by decide +kernel
theorem d_Tm_isEmpty_4 : decode k_Tm_isEmpty.1 4 = .ok (.ifCond .ne 7, 3) := by decide +kernel
theorem d_Tm_isEmpty_7 : decode k_Tm_isEmpty.1 7 = .ok (.iconst 1, 1) := by decide +kernel
theorem d_Tm_isEmpty_8 : decode k_Tm_isEmpty.1 8 = .ok (.goto 4, 3) := by decide +kernel
theorem d_Tm_isEmpty_11 : decode k_Tm_isEmpty.1 11 = .ok (.iconst 0, 1) := by decide +kernel
theorem d_Tm_isEmpty_12 : decode k_Tm_isEmpty.1 12 = .ok (.ireturn, 1) := by decide +kernel
theorem d_Tm_compareOnly_0 : decode k_Tm_compareOnly.1 0 = .ok (.aload_n 0, 1) := by decide +kernel
theorem d_Tm_compareOnly_1 : decode k_Tm_compareOnly.1 1 = .ok (.ldc2_w 26, 3) := by decide +kernel
theorem d_Tm_compareOnly_4 : decode k_Tm_compareOnly.1 4 = .ok (.bipush 8, 2) := by decide +kernel
theorem d_Tm_compareOnly_6 : decode k_Tm_compareOnly.1 6 = .ok (.bipush 8, 2) := by decide +kernel
theorem d_Tm_compareOnly_8 : decode k_Tm_compareOnly.1 8 = .ok (.iload_n 1, 1) := by decide +kernel
theorem d_Tm_compareOnly_9 : decode k_Tm_compareOnly.1 9 = .ok (.isub, 1) := by decide +kernel
theorem d_Tm_compareOnly_10 : decode k_Tm_compareOnly.1 10 = .ok (.imul, 1) := by decide +kernel
theorem d_Tm_compareOnly_11 : decode k_Tm_compareOnly.1 11 = .ok (.lshl, 1) := by decide +kernel
theorem d_Tm_compareOnly_12 : decode k_Tm_compareOnly.1 12 = .ok (.putfield 28, 3) := by decide +kernel
theorem d_Tm_compareOnly_15 : decode k_Tm_compareOnly.1 15 = .ok (.return_, 1) := by decide +kernel
theorem d_Tm_isOf_0 : decode k_Tm_isOf.1 0 = .ok (.aload_n 0, 1) := by decide +kernel
theorem d_Tm_isOf_1 : decode k_Tm_isOf.1 1 = .ok (.getfield 19, 3) := by decide +kernel
theorem d_Tm_isOf_4 : decode k_Tm_isOf.1 4 = .ok (.iload_n 1, 1) := by decide +kernel
theorem d_Tm_isOf_5 : decode k_Tm_isOf.1 5 = .ok (.if_icmp .ne 7, 3) := by decide +kernel
theorem d_Tm_isOf_8 : decode k_Tm_isOf.1 8 = .ok (.iconst 1, 1) := by decide +kernel
theorem d_Tm_isOf_9 : decode k_Tm_isOf.1 9 = .ok (.goto 4, 3) := by decide +kernel
theorem d_Tm_isOf_12 : decode k_Tm_isOf.1 12 = .ok (.iconst 0, 1) := by decide +kernel
theorem d_Tm_isOf_13 : decode k_Tm_isOf.1 13 = .ok (.ireturn, 1) := by decide +kernel
theorem d_Tm_weightIn_0 : decode k_Tm_weightIn.1 0 = .ok (.iconst 0, 1) := by decide +kernel
theorem d_Tm_weightIn_1 : decode k_Tm_weightIn.1 1 = .ok (.istore_n 2, 1) := by decide +kernel
theorem d_Tm_weightIn_2 : decode k_Tm_weightIn.1 2 = .ok (.iconst 0, 1) := by decide +kernel
theorem d_Tm_weightIn_3 : decode k_Tm_weightIn.1 3 = .ok (.istore_n 3, 1) := by decide +kernel
theorem d_Tm_weightIn_4 : decode k_Tm_weightIn.1 4 = .ok (.iload_n 3, 1) := by decide +kernel
theorem d_Tm_weightIn_5 : decode k_Tm_weightIn.1 5 = .ok (.aload_n 0, 1) := by decide +kernel
theorem d_Tm_weightIn_6 : decode k_Tm_weightIn.1 6 = .ok (.getfield 15, 3) := by decide +kernel
theorem d_Tm_weightIn_9 : decode k_Tm_weightIn.1 9 = .ok (.iadd, 1) := by decide +kernel
theorem d_Tm_weightIn_10 : decode k_Tm_weightIn.1 10 = .ok (.aload_n 1, 1) := by decide +kernel
theorem d_Tm_weightIn_11 : decode k_Tm_weightIn.1 11 = .ok (.invokevirtual 32, 3) := by decide +kernel
theorem d_Tm_weightIn_14 : decode k_Tm_weightIn.1 14 = .ok (.if_icmp .gt 30, 3) := by decide +kernel
theorem d_Tm_weightIn_17 : decode k_Tm_weightIn.1 17 = .ok (.iload_n 2, 1) := by decide +kernel
theorem d_Tm_weightIn_18 : decode k_Tm_weightIn.1 18 = .ok (.aload_n 0, 1) := by decide +kernel
theorem d_Tm_weightIn_19 : decode k_Tm_weightIn.1 19 = .ok (.aload_n 1, 1) := by decide +kernel
theorem d_Tm_weightIn_20 : decode k_Tm_weightIn.1 20 = .ok (.iload_n 3, 1) := by decide +kernel
theorem d_Tm_weightIn_21 : decode k_Tm_weightIn.1 21 = .ok (.invokevirtual 37, 3) := by decide +kernel
theorem d_Tm_weightIn_24 : decode k_Tm_weightIn.1 24 = .ok (.ifCond .eq 11, 3) := by decide +kernel
theorem d_Tm_weightIn_27 : decode k_Tm_weightIn.1 27 = .ok (.aload_n 1, 1) := by decide +kernel
theorem d_Tm_weightIn_28 : decode k_Tm_weightIn.1 28 = .ok (.iload_n 3, 1) := by decide +kernel
theorem d_Tm_weightIn_29 : decode k_Tm_weightIn.1 29 = .ok (.invokevirtual 41, 3) := by decide +kernel
theorem d_Tm_weightIn_32 : decode k_Tm_weightIn.1 32 = .ok (.goto 4, 3) := by decide +kernel
theorem d_Tm_weightIn_35 : decode k_Tm_weightIn.1 35 = .ok (.iconst 0, 1) := by decide +kernel
theorem d_Tm_weightIn_36 : decode k_Tm_weightIn.1 36 = .ok (.iadd, 1) := by decide +kernel
theorem d_Tm_weightIn_37 : decode k_Tm_weightIn.1 37 = .ok (.istore_n 2, 1) := by decide +kernel
theorem d_Tm_weightIn_38 : decode k_Tm_weightIn.1 38 = .ok (.iinc 3 1, 3) := by decide +kernel
theorem d_Tm_weightIn_41 : decode k_Tm_weightIn.1 41 = .ok (.goto (-37), 3) := by decide +kernel
theorem d_Tm_weightIn_44 : decode k_Tm_weightIn.1 44 = .ok (.iload_n 2, 1) := by decide +kernel
theorem d_Tm_weightIn_45 : decode k_Tm_weightIn.1 45 = .ok (.ireturn, 1) := by decide +kernel
theorem d_Tm_hits_0 : decode k_Tm_hits.1 0 = .ok (.iconst 0, 1) := by decide +kernel
theorem d_Tm_hits_1 : decode k_Tm_hits.1 1 = .ok (.istore_n 3, 1) := by decide +kernel
theorem d_Tm_hits_2 : decode k_Tm_hits.1 2 = .ok (.iload_n 3, 1) := by decide +kernel
theorem d_Tm_hits_3 : decode k_Tm_hits.1 3 = .ok (.aload_n 0, 1) := by decide +kernel
theorem d_Tm_hits_4 : decode k_Tm_hits.1 4 = .ok (.getfield 15, 3) := by decide +kernel
theorem d_Tm_hits_7 : decode k_Tm_hits.1 7 = .ok (.if_icmp .ge 33, 3) := by decide +kernel
theorem d_Tm_hits_10 : decode k_Tm_hits.1 10 = .ok (.aload_n 1, 1) := by decide +kernel
theorem d_Tm_hits_11 : decode k_Tm_hits.1 11 = .ok (.iload_n 2, 1) := by decide +kernel
theorem d_Tm_hits_12 : decode k_Tm_hits.1 12 = .ok (.iload_n 3, 1) := by decide +kernel
theorem d_Tm_hits_13 : decode k_Tm_hits.1 13 = .ok (.iadd, 1) := by decide +kernel
theorem d_Tm_hits_14 : decode k_Tm_hits.1 14 = .ok (.invokevirtual 45, 3) := by decide +kernel
theorem d_Tm_hits_17 : decode k_Tm_hits.1 17 = .ok (.aload_n 0, 1) := by decide +kernel
theorem d_Tm_hits_18 : decode k_Tm_hits.1 18 = .ok (.getfield 28, 3) := by decide +kernel
theorem d_Tm_hits_21 : decode k_Tm_hits.1 21 = .ok (.land, 1) := by decide +kernel
theorem d_Tm_hits_22 : decode k_Tm_hits.1 22 = .ok (.aload_n 0, 1) := by decide +kernel
theorem d_Tm_hits_23 : decode k_Tm_hits.1 23 = .ok (.getfield 9, 3) := by decide +kernel
theorem d_Tm_hits_26 : decode k_Tm_hits.1 26 = .ok (.iload_n 3, 1) := by decide +kernel
theorem d_Tm_hits_27 : decode k_Tm_hits.1 27 = .ok (.laload, 1) := by decide +kernel
theorem d_Tm_hits_28 : decode k_Tm_hits.1 28 = .ok (.lcmp, 1) := by decide +kernel
theorem d_Tm_hits_29 : decode k_Tm_hits.1 29 = .ok (.ifCond .eq 5, 3) := by decide +kernel
theorem d_Tm_hits_32 : decode k_Tm_hits.1 32 = .ok (.iconst 0, 1) := by decide +kernel
theorem d_Tm_hits_33 : decode k_Tm_hits.1 33 = .ok (.ireturn, 1) := by decide +kernel
theorem d_Tm_hits_34 : decode k_Tm_hits.1 34 = .ok (.iinc 3 1, 3) := by decide +kernel
theorem d_Tm_hits_37 : decode k_Tm_hits.1 37 = .ok (.goto (-35), 3) := by decide +kernel
theorem d_Tm_hits_40 : decode k_Tm_hits.1 40 = .ok (.iconst 1, 1) := by decide +kernel
theorem d_Tm_hits_41 : decode k_Tm_hits.1 41 = .ok (.ireturn, 1) := by decide +kernel
theorem d_Tm_isUnwanted_0 : decode k_Tm_isUnwanted.1 0 = .ok (.aload_n 0, 1) := by decide +kernel
theorem d_Tm_isUnwanted_1 : decode k_Tm_isUnwanted.1 1 = .ok (.getfield 22, 3) := by decide +kernel
theorem d_Tm_isUnwanted_4 : decode k_Tm_isUnwanted.1 4 = .ok (.ireturn, 1) := by decide +kernel
