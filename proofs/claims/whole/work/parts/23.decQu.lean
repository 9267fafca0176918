theorem d_Qu_init_0 : decode k_Qu_init.1 0 = .ok (.aload_n 0, 1) := by decide +kernel
theorem d_Qu_init_1 : decode k_Qu_init.1 1 = .ok (.invokespecial 3, 3) := by decide +kernel
theorem d_Qu_init_4 : decode k_Qu_init.1 4 = .ok (.aload_n 0, 1) := by decide +kernel
theorem d_Qu_init_5 : decode k_Qu_init.1 5 = .ok (.bipush 8, 2) := by decide +kernel
theorem d_Qu_init_7 : decode k_Qu_init.1 7 = .ok (.newarray .int, 2) := by decide +kernel
theorem d_Qu_init_9 : decode k_Qu_init.1 9 = .ok (.putfield 9, 3) := by decide +kernel
theorem d_Qu_init_12 : decode k_Qu_init.1 12 = .ok (.aload_n 0, 1) := by decide +kernel
theorem d_Qu_init_13 : decode k_Qu_init.1 13 = .ok (.bipush 8, 2) := by decide +kernel
theorem d_Qu_init_15 : decode k_Qu_init.1 15 = .ok (.newarray .int, 2) := by decide +kernel
theorem d_Qu_init_17 : decode k_Qu_init.1 17 = .ok (.putfield 15, 3) := by decide +kernel
theorem d_Qu_init_20 : decode k_Qu_init.1 20 = .ok (.return_, 1) := by decide +kernel
theorem d_Qu_startAnew_0 : decode k_Qu_startAnew.1 0 = .ok (.aload_n 0, 1) := by decide +kernel
theorem d_Qu_startAnew_1 : decode k_Qu_startAnew.1 1 = .ok (.iconst 0, 1) := by decide +kernel
theorem d_Qu_startAnew_2 : decode k_Qu_startAnew.1 2 = .ok (.putfield 18, 3) := by decide +kernel
theorem d_Qu_startAnew_5 : decode k_Qu_startAnew.1 5 = .ok (.aload_n 0, 1) := by decide +kernel
theorem d_Qu_startAnew_6 : decode k_Qu_startAnew.1 6 = .ok (.iconst 0, 1) := by decide +kernel
theorem d_Qu_startAnew_7 : decode k_Qu_startAnew.1 7 = .ok (.putfield 22, 3) := by decide +kernel
theorem d_Qu_startAnew_10 : decode k_Qu_startAnew.1 10 = .ok (.return_, 1) := by decide +kernel
theorem d_Qu_tell_0 : decode k_Qu_tell.1 0 = .ok (.aload_n 0, 1) := by decide +kernel
theorem d_Qu_tell_1 : decode k_Qu_tell.1 1 = .ok (.getfield 22, 3) := by decide +kernel
theorem d_Qu_tell_4 : decode k_Qu_tell.1 4 = .ok (.ifCond .eq 4, 3) := by decide +kernel
theorem d_Qu_tell_7 : decode k_Qu_tell.1 7 = .ok (.return_, 1) := by decide +kernel
theorem d_Qu_tell_8 : decode k_Qu_tell.1 8 = .ok (.aload_n 0, 1) := by decide +kernel
theorem d_Qu_tell_9 : decode k_Qu_tell.1 9 = .ok (.iload_n 1, 1) := by decide +kernel
theorem d_Qu_tell_10 : decode k_Qu_tell.1 10 = .ok (.invokevirtual 26, 3) := by decide +kernel
theorem d_Qu_tell_13 : decode k_Qu_tell.1 13 = .ok (.istore_n 3, 1) := by decide +kernel
theorem d_Qu_tell_14 : decode k_Qu_tell.1 14 = .ok (.iload_n 3, 1) := by decide +kernel
theorem d_Qu_tell_15 : decode k_Qu_tell.1 15 = .ok (.aload_n 0, 1) := by decide +kernel
theorem d_Qu_tell_16 : decode k_Qu_tell.1 16 = .ok (.getfield 18, 3) := by decide +kernel
theorem d_Qu_tell_19 : decode k_Qu_tell.1 19 = .ok (.if_icmp .ge 12, 3) := by decide +kernel
theorem d_Qu_tell_22 : decode k_Qu_tell.1 22 = .ok (.aload_n 0, 1) := by decide +kernel
theorem d_Qu_tell_23 : decode k_Qu_tell.1 23 = .ok (.iload_n 3, 1) := by decide +kernel
theorem d_Qu_tell_24 : decode k_Qu_tell.1 24 = .ok (.iload_n 2, 1) := by decide +kernel
theorem d_Qu_tell_25 : decode k_Qu_tell.1 25 = .ok (.invokevirtual 30, 3) := by decide +kernel
theorem d_Qu_tell_28 : decode k_Qu_tell.1 28 = .ok (.goto 55, 3) := by decide +kernel
theorem d_Qu_tell_31 : decode k_Qu_tell.1 31 = .ok (.aload_n 0, 1) := by decide +kernel
theorem d_Qu_tell_32 : decode k_Qu_tell.1 32 = .ok (.getfield 18, 3) := by decide +kernel
theorem d_Qu_tell_35 : decode k_Qu_tell.1 35 = .ok (.bipush 8, 2) := by decide +kernel
theorem d_Qu_tell_37 : decode k_Qu_tell.1 37 = .ok (.if_icmp .ge 36, 3) := by decide +kernel
theorem d_Qu_tell_40 : decode k_Qu_tell.1 40 = .ok (.aload_n 0, 1) := by decide +kernel
theorem d_Qu_tell_41 : decode k_Qu_tell.1 41 = .ok (.getfield 9, 3) := by decide +kernel
theorem d_Qu_tell_44 : decode k_Qu_tell.1 44 = .ok (.aload_n 0, 1) := by decide +kernel
theorem d_Qu_tell_45 : decode k_Qu_tell.1 45 = .ok (.getfield 18, 3) := by decide +kernel
theorem d_Qu_tell_48 : decode k_Qu_tell.1 48 = .ok (.iload_n 2, 1) := by decide +kernel
theorem d_Qu_tell_49 : decode k_Qu_tell.1 49 = .ok (.iastore, 1) := by decide +kernel
theorem d_Qu_tell_50 : decode k_Qu_tell.1 50 = .ok (.aload_n 0, 1) := by decide +kernel
theorem d_Qu_tell_51 : decode k_Qu_tell.1 51 = .ok (.getfield 15, 3) := by decide +kernel
theorem d_Qu_tell_54 : decode k_Qu_tell.1 54 = .ok (.aload_n 0, 1) := by decide +kernel
theorem d_Qu_tell_55 : decode k_Qu_tell.1 55 = .ok (.getfield 18, 3) := by decide +kernel
theorem d_Qu_tell_58 : decode k_Qu_tell.1 58 = .ok (.iload_n 1, 1) := by decide +kernel
theorem d_Qu_tell_59 : decode k_Qu_tell.1 59 = .ok (.iastore, 1) := by decide +kernel
theorem d_Qu_tell_60 : decode k_Qu_tell.1 60 = .ok (.aload_n 0, 1) := by decide +kernel
theorem d_Qu_tell_61 : decode k_Qu_tell.1 61 = .ok (.dup, 1) := by decide +kernel
theorem d_Qu_tell_62 : decode k_Qu_tell.1 62 = .ok (.getfield 18, 3) := by decide +kernel
theorem d_Qu_tell_65 : decode k_Qu_tell.1 65 = .ok (.iconst 1, 1) := by decide +kernel
theorem d_Qu_tell_66 : decode k_Qu_tell.1 66 = .ok (.iadd, 1) := by decide +kernel
theorem d_Qu_tell_67 : decode k_Qu_tell.1 67 = .ok (.putfield 18, 3) := by decide +kernel
theorem d_Qu_tell_70 : decode k_Qu_tell.1 70 = .ok (.goto 13, 3) := by decide +kernel
theorem d_Qu_tell_73 : decode k_Qu_tell.1 73 = .ok (.aload_n 0, 1) := by decide +kernel
theorem d_Qu_tell_74 : decode k_Qu_tell.1 74 = .ok (.iconst 0, 1) := by decide +kernel
theorem d_Qu_tell_75 : decode k_Qu_tell.1 75 = .ok (.putfield 18, 3) := by decide +kernel
theorem d_Qu_tell_78 : decode k_Qu_tell.1 78 = .ok (.aload_n 0, 1) := by decide +kernel
theorem d_Qu_tell_79 : decode k_Qu_tell.1 79 = .ok (.iconst 1, 1) := by decide +kernel
theorem d_Qu_tell_80 : decode k_Qu_tell.1 80 = .ok (.putfield 22, 3) := by decide +kernel
theorem d_Qu_tell_83 : decode k_Qu_tell.1 83 = .ok (.return_, 1) := by decide +kernel
theorem d_Qu_placeOf_0 : decode k_Qu_placeOf.1 0 = .ok (.iconst 0, 1) := by decide +kernel
theorem d_Qu_placeOf_1 : decode k_Qu_placeOf.1 1 = .ok (.istore_n 2, 1) := by decide +kernel
theorem d_Qu_placeOf_2 : decode k_Qu_placeOf.1 2 = .ok (.iload_n 2, 1) := by decide +kernel
theorem d_Qu_placeOf_3 : decode k_Qu_placeOf.1 3 = .ok (.aload_n 0, 1) := by decide +kernel
theorem d_Qu_placeOf_4 : decode k_Qu_placeOf.1 4 = .ok (.getfield 18, 3) := by decide +kernel
theorem d_Qu_placeOf_7 : decode k_Qu_placeOf.1 7 = .ok (.if_icmp .ge 21, 3) := by decide +kernel
theorem d_Qu_placeOf_10 : decode k_Qu_placeOf.1 10 = .ok (.aload_n 0, 1) := by decide +kernel
theorem d_Qu_placeOf_11 : decode k_Qu_placeOf.1 11 = .ok (.getfield 15, 3) := by decide +kernel
theorem d_Qu_placeOf_14 : decode k_Qu_placeOf.1 14 = .ok (.iload_n 2, 1) := by decide +kernel
theorem d_Qu_placeOf_15 : decode k_Qu_placeOf.1 15 = .ok (.iaload, 1) := by decide +kernel
theorem d_Qu_placeOf_16 : decode k_Qu_placeOf.1 16 = .ok (.iload_n 1, 1) := by decide +kernel
theorem d_Qu_placeOf_17 : decode k_Qu_placeOf.1 17 = .ok (.if_icmp .ne 5, 3) := by decide +kernel
theorem d_Qu_placeOf_20 : decode k_Qu_placeOf.1 20 = .ok (.iload_n 2, 1) := by decide +kernel
theorem d_Qu_placeOf_21 : decode k_Qu_placeOf.1 21 = .ok (.ireturn, 1) := by decide +kernel
theorem d_Qu_placeOf_22 : decode k_Qu_placeOf.1 22 = .ok (.iinc 2 1, 3) := by decide +kernel
theorem d_Qu_placeOf_25 : decode k_Qu_placeOf.1 25 = .ok (.goto (-23), 3) := by decide +kernel
theorem d_Qu_placeOf_28 : decode k_Qu_placeOf.1 28 = .ok (.aload_n 0, 1) := by decide +kernel
theorem d_Qu_placeOf_29 : decode k_Qu_placeOf.1 29 = .ok (.getfield 18, 3) := by decide +kernel
theorem d_Qu_placeOf_32 : decode k_Qu_placeOf.1 32 = .ok (.ireturn, 1) := by decide +kernel
theorem d_Qu_putTogether_0 : decode k_Qu_putTogether.1 0 = .ok (.aload_n 0, 1) := by decide +kernel
theorem d_Qu_putTogether_1 : decode k_Qu_putTogether.1 1 = .ok (.getfield 9, 3) := by decide +kernel
theorem d_Qu_putTogether_4 : decode k_Qu_putTogether.1 4 = .ok (.iload_n 1, 1) := by decide +kernel
theorem d_Qu_putTogether_5 : decode k_Qu_putTogether.1 5 = .ok (.iaload, 1) := by decide +kernel
theorem d_Qu_putTogether_6 : decode k_Qu_putTogether.1 6 = .ok (.istore_n 3, 1) := by decide +kernel
theorem d_Qu_putTogether_7 : decode k_Qu_putTogether.1 7 = .ok (.iload_n 3, 1) := by decide +kernel
theorem d_Qu_putTogether_8 : decode k_Qu_putTogether.1 8 = .ok (.iconst 1, 1) := by decide +kernel
theorem d_Qu_putTogether_9 : decode k_Qu_putTogether.1 9 = .ok (.if_icmp .ne 16, 3) := by decide +kernel
theorem d_Qu_putTogether_12 : decode k_Qu_putTogether.1 12 = .ok (.iload_n 2, 1) := by decide +kernel
theorem d_Qu_putTogether_13 : decode k_Qu_putTogether.1 13 = .ok (.iconst 3, 1) := by decide +kernel
theorem d_Qu_putTogether_14 : decode k_Qu_putTogether.1 14 = .ok (.if_icmp .ne 11, 3) := by decide +kernel
theorem d_Qu_putTogether_17 : decode k_Qu_putTogether.1 17 = .ok (.aload_n 0, 1) := by decide +kernel
theorem d_Qu_putTogether_18 : decode k_Qu_putTogether.1 18 = .ok (.iload_n 1, 1) := by decide +kernel
theorem d_Qu_putTogether_19 : decode k_Qu_putTogether.1 19 = .ok (.invokevirtual 34, 3) := by decide +kernel
theorem d_Qu_putTogether_22 : decode k_Qu_putTogether.1 22 = .ok (.goto 40, 3) := by decide +kernel
theorem d_Qu_putTogether_25 : decode k_Qu_putTogether.1 25 = .ok (.iload_n 3, 1) := by decide +kernel
theorem d_Qu_putTogether_26 : decode k_Qu_putTogether.1 26 = .ok (.iconst 2, 1) := by decide +kernel
theorem d_Qu_putTogether_27 : decode k_Qu_putTogether.1 27 = .ok (.if_icmp .ne 18, 3) := by decide +kernel
theorem d_Qu_putTogether_30 : decode k_Qu_putTogether.1 30 = .ok (.iload_n 2, 1) := by decide +kernel
theorem d_Qu_putTogether_31 : decode k_Qu_putTogether.1 31 = .ok (.iconst 3, 1) := by decide +kernel
theorem d_Qu_putTogether_32 : decode k_Qu_putTogether.1 32 = .ok (.if_icmp .ne 13, 3) := by decide +kernel
theorem d_Qu_putTogether_35 : decode k_Qu_putTogether.1 35 = .ok (.aload_n 0, 1) := by decide +kernel
theorem d_Qu_putTogether_36 : decode k_Qu_putTogether.1 36 = .ok (.getfield 9, 3) := by decide +kernel
theorem d_Qu_putTogether_39 : decode k_Qu_putTogether.1 39 = .ok (.iload_n 1, 1) := by decide +kernel
theorem d_Qu_putTogether_40 : decode k_Qu_putTogether.1 40 = .ok (.iconst 3, 1) := by decide +kernel
theorem d_Qu_putTogether_41 : decode k_Qu_putTogether.1 41 = .ok (.iastore, 1) := by decide +kernel
theorem d_Qu_putTogether_42 : decode k_Qu_putTogether.1 42 = .ok (.goto 20, 3) := by decide +kernel
theorem d_Qu_putTogether_45 : decode k_Qu_putTogether.1 45 = .ok (.iload_n 3, 1) := by decide +kernel
theorem d_Qu_putTogether_46 : decode k_Qu_putTogether.1 46 = .ok (.iconst 3, 1) := by decide +kernel
theorem d_Qu_putTogether_47 : decode k_Qu_putTogether.1 47 = .ok (.if_icmp .ne 15, 3) := by decide +kernel
theorem d_Qu_putTogether_50 : decode k_Qu_putTogether.1 50 = .ok (.iload_n 2, 1) := by decide +kernel
theorem d_Qu_putTogether_51 : decode k_Qu_putTogether.1 51 = .ok (.iconst 1, 1) := by decide +kernel
theorem d_Qu_putTogether_52 : decode k_Qu_putTogether.1 52 = .ok (.if_icmp .ne 10, 3) := by decide +kernel
theorem d_Qu_putTogether_55 : decode k_Qu_putTogether.1 55 = .ok (.aload_n 0, 1) := by decide +kernel
theorem d_Qu_putTogether_56 : decode k_Qu_putTogether.1 56 = .ok (.getfield 9, 3) := by decide +kernel
theorem d_Qu_putTogether_59 : decode k_Qu_putTogether.1 59 = .ok (.iload_n 1, 1) := by decide +kernel
theorem d_Qu_putTogether_60 : decode k_Qu_putTogether.1 60 = .ok (.iconst 2, 1) := by decide +kernel
theorem d_Qu_putTogether_61 : decode k_Qu_putTogether.1 61 = .ok (.iastore, 1) := by decide +kernel
theorem d_Qu_putTogether_62 : decode k_Qu_putTogether.1 62 = .ok (.return_, 1) := by decide +kernel
theorem d_Qu_drop_0 : decode k_Qu_drop.1 0 = .ok (.aload_n 0, 1) := by decide +kernel
theorem d_Qu_drop_1 : decode k_Qu_drop.1 1 = .ok (.dup, 1) := by decide +kernel
theorem d_Qu_drop_2 : decode k_Qu_drop.1 2 = .ok (.getfield 18, 3) := by decide +kernel
theorem d_Qu_drop_5 : decode k_Qu_drop.1 5 = .ok (.iconst 1, 1) := by decide +kernel
theorem d_Qu_drop_6 : decode k_Qu_drop.1 6 = .ok (.isub, 1) := by decide +kernel
theorem d_Qu_drop_7 : decode k_Qu_drop.1 7 = .ok (.putfield 18, 3) := by decide +kernel
theorem d_Qu_drop_10 : decode k_Qu_drop.1 10 = .ok (.iload_n 1, 1) := by decide +kernel
theorem d_Qu_drop_11 : decode k_Qu_drop.1 11 = .ok (.istore_n 2, 1) := by decide +kernel
theorem d_Qu_drop_12 : decode k_Qu_drop.1 12 = .ok (.iload_n 2, 1) := by decide +kernel
theorem d_Qu_drop_13 : decode k_Qu_drop.1 13 = .ok (.aload_n 0, 1) := by decide +kernel
theorem d_Qu_drop_14 : decode k_Qu_drop.1 14 = .ok (.getfield 18, 3) := by decide +kernel
theorem d_Qu_drop_17 : decode k_Qu_drop.1 17 = .ok (.if_icmp .ge 37, 3) := by decide +kernel
theorem d_Qu_drop_20 : decode k_Qu_drop.1 20 = .ok (.aload_n 0, 1) := by decide +kernel
theorem d_Qu_drop_21 : decode k_Qu_drop.1 21 = .ok (.getfield 9, 3) := by decide +kernel
theorem d_Qu_drop_24 : decode k_Qu_drop.1 24 = .ok (.iload_n 2, 1) := by decide +kernel
theorem d_Qu_drop_25 : decode k_Qu_drop.1 25 = .ok (.aload_n 0, 1) := by decide +kernel
theorem d_Qu_drop_26 : decode k_Qu_drop.1 26 = .ok (.getfield 9, 3) := by decide +kernel
theorem d_Qu_drop_29 : decode k_Qu_drop.1 29 = .ok (.iload_n 2, 1) := by decide +kernel
theorem d_Qu_drop_30 : decode k_Qu_drop.1 30 = .ok (.iconst 1, 1) := by decide +kernel
theorem d_Qu_drop_31 : decode k_Qu_drop.1 31 = .ok (.iadd, 1) := by decide +kernel
theorem d_Qu_drop_32 : decode k_Qu_drop.1 32 = .ok (.iaload, 1) := by decide +kernel
theorem d_Qu_drop_33 : decode k_Qu_drop.1 33 = .ok (.iastore, 1) := by decide +kernel
theorem d_Qu_drop_34 : decode k_Qu_drop.1 34 = .ok (.aload_n 0, 1) := by decide +kernel
theorem d_Qu_drop_35 : decode k_Qu_drop.1 35 = .ok (.getfield 15, 3) := by decide +kernel
theorem d_Qu_drop_38 : decode k_Qu_drop.1 38 = .ok (.iload_n 2, 1) := by decide +kernel
theorem d_Qu_drop_39 : decode k_Qu_drop.1 39 = .ok (.aload_n 0, 1) := by decide +kernel
theorem d_Qu_drop_40 : decode k_Qu_drop.1 40 = .ok (.getfield 15, 3) := by decide +kernel
theorem d_Qu_drop_43 : decode k_Qu_drop.1 43 = .ok (.iload_n 2, 1) := by decide +kernel
theorem d_Qu_drop_44 : decode k_Qu_drop.1 44 = .ok (.iconst 1, 1) := by decide +kernel
theorem d_Qu_drop_45 : decode k_Qu_drop.1 45 = .ok (.iadd, 1) := by decide +kernel
theorem d_Qu_drop_46 : decode k_Qu_drop.1 46 = .ok (.iaload, 1) := by decide +kernel
theorem d_Qu_drop_47 : decode k_Qu_drop.1 47 = .ok (.iastore, 1) := by decide +kernel
theorem d_Qu_drop_48 : decode k_Qu_drop.1 48 = .ok (.iinc 2 1, 3) := by decide +kernel
theorem d_Qu_drop_51 : decode k_Qu_drop.1 51 = .ok (.goto (-39), 3) := by decide +kernel
theorem d_Qu_drop_54 : decode k_Qu_drop.1 54 = .ok (.return_, 1) := by decide +kernel
theorem d_Qu_isLost_0 : decode k_Qu_isLost.1 0 = .ok (.aload_n 0, 1) := by decide +kernel
theorem d_Qu_isLost_1 : decode k_Qu_isLost.1 1 = .ok (.getfield 22, 3) := by decide +kernel
theorem d_Qu_isLost_4 : decode k_Qu_isLost.1 4 = .ok (.ireturn, 1) := by decide +kernel
theorem d_Qu_size_0 : decode k_Qu_size.1 0 = .ok (.aload_n 0, 1) := by decide +kernel
theorem d_Qu_size_1 : decode k_Qu_size.1 1 = .ok (.getfield 18, 3) := by decide +kernel
theorem d_Qu_size_4 : decode k_Qu_size.1 4 = .ok (.ireturn, 1) := by decide +kernel
theorem d_Qu_kindAt_0 : decode k_Qu_kindAt.1 0 = .ok (.aload_n 0, 1) := by decide +kernel
theorem d_Qu_kindAt_1 : decode k_Qu_kindAt.1 1 = .ok (.getfield 9, 3) := by decide +kernel
theorem d_Qu_kindAt_4 : decode k_Qu_kindAt.1 4 = .ok (.iload_n 1, 1) := by decide +kernel
theorem d_Qu_kindAt_5 : decode k_Qu_kindAt.1 5 = .ok (.iaload, 1) := by decide +kernel
theorem d_Qu_kindAt_6 : decode k_Qu_kindAt.1 6 = .ok (.ireturn, 1) := by decide +kernel
theorem d_Qu_fileAt_0 : decode k_Qu_fileAt.1 0 = .ok (.aload_n 0, 1) := by decide +kernel
theorem d_Qu_fileAt_1 : decode k_Qu_fileAt.1 1 = .ok (.getfield 15, 3) := by decide +kernel
theorem d_Qu_fileAt_4 : decode k_Qu_fileAt.1 4 = .ok (.iload_n 1, 1) := by decide +kernel
theorem d_Qu_fileAt_5 : decode k_Qu_fileAt.1 5 = .ok (.iaload, 1) := by decide +kernel
theorem d_Qu_fileAt_6 : decode k_Qu_fileAt.1 6 = .ok (.ireturn, 1) := by decide +kernel
