theorem d_Lw_make_0 : decode k_Lw_make.1 0 = .ok (.aload 4, 2) := by decide +kernel
theorem d_Lw_make_2 : decode k_Lw_make.1 2 = .ok (.iconst 0, 1) := by decide +kernel
theorem d_Lw_make_3 : decode k_Lw_make.1 3 = .ok (.aload_n 0, 1) := by decide +kernel
theorem d_Lw_make_4 : decode k_Lw_make.1 4 = .ok (.iload_n 1, 1) := by decide +kernel
theorem d_Lw_make_5 : decode k_Lw_make.1 5 = .ok (.iload_n 2, 1) := by decide +kernel
theorem d_Lw_make_6 : decode k_Lw_make.1 6 = .ok (.iload_n 3, 1) := by decide +kernel
theorem d_Lw_make_7 : decode k_Lw_make.1 7 = .ok (.invokevirtual 7, 3) := by decide +kernel
theorem d_Lw_make_10 : decode k_Lw_make.1 10 = .ok (.i2l, 1) := by decide +kernel
theorem d_Lw_make_11 : decode k_Lw_make.1 11 = .ok (.lastore, 1) := by decide +kernel
theorem d_Lw_make_12 : decode k_Lw_make.1 12 = .ok (.goto 11, 3) := by decide +kernel
theorem d_Lw_make_15 : decode k_Lw_make.1 15 = .ok (.astore 5, 2) := by decide +kernel
theorem d_Lw_make_17 : decode k_Lw_make.1 17 = .ok (.iconst 1, 1) := by decide +kernel
theorem d_Lw_make_18 : decode k_Lw_make.1 18 = .ok (.ireturn, 1) := by decide +kernel
theorem d_Lw_make_19 : decode k_Lw_make.1 19 = .ok (.astore 5, 2) := by decide +kernel
theorem d_Lw_make_21 : decode k_Lw_make.1 21 = .ok (.iconst 2, 1) := by decide +kernel
theorem d_Lw_make_22 : decode k_Lw_make.1 22 = .ok (.ireturn, 1) := by decide +kernel
theorem d_Lw_make_23 : decode k_Lw_make.1 23 = .ok (.iconst 0, 1) := by decide +kernel
theorem d_Lw_make_24 : decode k_Lw_make.1 24 = .ok (.ireturn, 1) := by decide +kernel
theorem d_Lw_write_0 : decode k_Lw_write.1 0 = .ok (.aload 5, 2) := by decide +kernel
theorem d_Lw_write_2 : decode k_Lw_write.1 2 = .ok (.iconst 0, 1) := by decide +kernel
theorem d_Lw_write_3 : decode k_Lw_write.1 3 = .ok (.aload_n 0, 1) := by decide +kernel
theorem d_Lw_write_4 : decode k_Lw_write.1 4 = .ok (.iload_n 1, 1) := by decide +kernel
theorem d_Lw_write_5 : decode k_Lw_write.1 5 = .ok (.lload_n 2, 1) := by decide +kernel
theorem d_Lw_write_6 : decode k_Lw_write.1 6 = .ok (.iload 4, 2) := by decide +kernel
theorem d_Lw_write_8 : decode k_Lw_write.1 8 = .ok (.invokevirtual 17, 3) := by decide +kernel
theorem d_Lw_write_11 : decode k_Lw_write.1 11 = .ok (.i2l, 1) := by decide +kernel
theorem d_Lw_write_12 : decode k_Lw_write.1 12 = .ok (.lastore, 1) := by decide +kernel
theorem d_Lw_write_13 : decode k_Lw_write.1 13 = .ok (.goto 15, 3) := by decide +kernel
theorem d_Lw_write_16 : decode k_Lw_write.1 16 = .ok (.astore 6, 2) := by decide +kernel
theorem d_Lw_write_18 : decode k_Lw_write.1 18 = .ok (.iconst 1, 1) := by decide +kernel
theorem d_Lw_write_19 : decode k_Lw_write.1 19 = .ok (.ireturn, 1) := by decide +kernel
theorem d_Lw_write_20 : decode k_Lw_write.1 20 = .ok (.astore 6, 2) := by decide +kernel
theorem d_Lw_write_22 : decode k_Lw_write.1 22 = .ok (.iconst 2, 1) := by decide +kernel
theorem d_Lw_write_23 : decode k_Lw_write.1 23 = .ok (.ireturn, 1) := by decide +kernel
theorem d_Lw_write_24 : decode k_Lw_write.1 24 = .ok (.astore 6, 2) := by decide +kernel
theorem d_Lw_write_26 : decode k_Lw_write.1 26 = .ok (.iconst 3, 1) := by decide +kernel
theorem d_Lw_write_27 : decode k_Lw_write.1 27 = .ok (.ireturn, 1) := by decide +kernel
theorem d_Lw_write_28 : decode k_Lw_write.1 28 = .ok (.iconst 0, 1) := by decide +kernel
theorem d_Lw_write_29 : decode k_Lw_write.1 29 = .ok (.ireturn, 1) := by decide +kernel
theorem d_Lw_cut_0 : decode k_Lw_cut.1 0 = .ok (.aload_n 3, 1) := by decide +kernel
theorem d_Lw_cut_1 : decode k_Lw_cut.1 1 = .ok (.iconst 0, 1) := by decide +kernel
theorem d_Lw_cut_2 : decode k_Lw_cut.1 2 = .ok (.aload_n 0, 1) := by decide +kernel
theorem d_Lw_cut_3 : decode k_Lw_cut.1 3 = .ok (.iload_n 1, 1) := by decide +kernel
theorem d_Lw_cut_4 : decode k_Lw_cut.1 4 = .ok (.iload_n 2, 1) := by decide +kernel
theorem d_Lw_cut_5 : decode k_Lw_cut.1 5 = .ok (.invokevirtual 23, 3) := by decide +kernel
theorem d_Lw_cut_8 : decode k_Lw_cut.1 8 = .ok (.i2l, 1) := by decide +kernel
theorem d_Lw_cut_9 : decode k_Lw_cut.1 9 = .ok (.lastore, 1) := by decide +kernel
theorem d_Lw_cut_10 : decode k_Lw_cut.1 10 = .ok (.goto 11, 3) := by decide +kernel
theorem d_Lw_cut_13 : decode k_Lw_cut.1 13 = .ok (.astore 4, 2) := by decide +kernel
theorem d_Lw_cut_15 : decode k_Lw_cut.1 15 = .ok (.iconst 1, 1) := by decide +kernel
theorem d_Lw_cut_16 : decode k_Lw_cut.1 16 = .ok (.ireturn, 1) := by decide +kernel
theorem d_Lw_cut_17 : decode k_Lw_cut.1 17 = .ok (.astore 4, 2) := by decide +kernel
theorem d_Lw_cut_19 : decode k_Lw_cut.1 19 = .ok (.iconst 2, 1) := by decide +kernel
theorem d_Lw_cut_20 : decode k_Lw_cut.1 20 = .ok (.ireturn, 1) := by decide +kernel
theorem d_Lw_cut_21 : decode k_Lw_cut.1 21 = .ok (.iconst 0, 1) := by decide +kernel
theorem d_Lw_cut_22 : decode k_Lw_cut.1 22 = .ok (.ireturn, 1) := by decide +kernel
theorem d_Lw_remove_0 : decode k_Lw_remove.1 0 = .ok (.aload_n 2, 1) := by decide +kernel
theorem d_Lw_remove_1 : decode k_Lw_remove.1 1 = .ok (.iconst 0, 1) := by decide +kernel
theorem d_Lw_remove_2 : decode k_Lw_remove.1 2 = .ok (.aload_n 0, 1) := by decide +kernel
theorem d_Lw_remove_3 : decode k_Lw_remove.1 3 = .ok (.iload_n 1, 1) := by decide +kernel
theorem d_Lw_remove_4 : decode k_Lw_remove.1 4 = .ok (.invokevirtual 27, 3) := by decide +kernel
theorem d_Lw_remove_7 : decode k_Lw_remove.1 7 = .ok (.i2l, 1) := by decide +kernel
theorem d_Lw_remove_8 : decode k_Lw_remove.1 8 = .ok (.lastore, 1) := by decide +kernel
theorem d_Lw_remove_9 : decode k_Lw_remove.1 9 = .ok (.goto 9, 3) := by decide +kernel
theorem d_Lw_remove_12 : decode k_Lw_remove.1 12 = .ok (.astore_n 3, 1) := by decide +kernel
theorem d_Lw_remove_13 : decode k_Lw_remove.1 13 = .ok (.iconst 1, 1) := by decide +kernel
theorem d_Lw_remove_14 : decode k_Lw_remove.1 14 = .ok (.ireturn, 1) := by decide +kernel
theorem d_Lw_remove_15 : decode k_Lw_remove.1 15 = .ok (.astore_n 3, 1) := by decide +kernel
theorem d_Lw_remove_16 : decode k_Lw_remove.1 16 = .ok (.iconst 2, 1) := by decide +kernel
theorem d_Lw_remove_17 : decode k_Lw_remove.1 17 = .ok (.ireturn, 1) := by decide +kernel
theorem d_Lw_remove_18 : decode k_Lw_remove.1 18 = .ok (.iconst 0, 1) := by decide +kernel
theorem d_Lw_remove_19 : decode k_Lw_remove.1 19 = .ok (.ireturn, 1) := by decide +kernel
theorem d_Lw_move_0 : decode k_Lw_move.1 0 = .ok (.aload_n 3, 1) := by decide +kernel
theorem d_Lw_move_1 : decode k_Lw_move.1 1 = .ok (.iconst 0, 1) := by decide +kernel
theorem d_Lw_move_2 : decode k_Lw_move.1 2 = .ok (.aload_n 0, 1) := by decide +kernel
theorem d_Lw_move_3 : decode k_Lw_move.1 3 = .ok (.iload_n 1, 1) := by decide +kernel
theorem d_Lw_move_4 : decode k_Lw_move.1 4 = .ok (.iload_n 2, 1) := by decide +kernel
theorem d_Lw_move_5 : decode k_Lw_move.1 5 = .ok (.invokevirtual 31, 3) := by decide +kernel
theorem d_Lw_move_8 : decode k_Lw_move.1 8 = .ok (.i2l, 1) := by decide +kernel
theorem d_Lw_move_9 : decode k_Lw_move.1 9 = .ok (.lastore, 1) := by decide +kernel
theorem d_Lw_move_10 : decode k_Lw_move.1 10 = .ok (.goto 15, 3) := by decide +kernel
theorem d_Lw_move_13 : decode k_Lw_move.1 13 = .ok (.astore 4, 2) := by decide +kernel
theorem d_Lw_move_15 : decode k_Lw_move.1 15 = .ok (.iconst 1, 1) := by decide +kernel
theorem d_Lw_move_16 : decode k_Lw_move.1 16 = .ok (.ireturn, 1) := by decide +kernel
theorem d_Lw_move_17 : decode k_Lw_move.1 17 = .ok (.astore 4, 2) := by decide +kernel
theorem d_Lw_move_19 : decode k_Lw_move.1 19 = .ok (.iconst 2, 1) := by decide +kernel
theorem d_Lw_move_20 : decode k_Lw_move.1 20 = .ok (.ireturn, 1) := by decide +kernel
theorem d_Lw_move_21 : decode k_Lw_move.1 21 = .ok (.astore 4, 2) := by decide +kernel
theorem d_Lw_move_23 : decode k_Lw_move.1 23 = .ok (.iconst 3, 1) := by decide +kernel
theorem d_Lw_move_24 : decode k_Lw_move.1 24 = .ok (.ireturn, 1) := by decide +kernel
theorem d_Lw_move_25 : decode k_Lw_move.1 25 = .ok (.iconst 0, 1) := by decide +kernel
theorem d_Lw_move_26 : decode k_Lw_move.1 26 = .ok (.ireturn, 1) := by decide +kernel
theorem d_Lw_work_0 : decode k_Lw_work.1 0 = .ok (.aload_n 2, 1) := by decide +kernel
theorem d_Lw_work_1 : decode k_Lw_work.1 1 = .ok (.iconst 0, 1) := by decide +kernel
theorem d_Lw_work_2 : decode k_Lw_work.1 2 = .ok (.aload_n 0, 1) := by decide +kernel
theorem d_Lw_work_3 : decode k_Lw_work.1 3 = .ok (.iload_n 1, 1) := by decide +kernel
theorem d_Lw_work_4 : decode k_Lw_work.1 4 = .ok (.invokevirtual 34, 3) := by decide +kernel
theorem d_Lw_work_7 : decode k_Lw_work.1 7 = .ok (.i2l, 1) := by decide +kernel
theorem d_Lw_work_8 : decode k_Lw_work.1 8 = .ok (.lastore, 1) := by decide +kernel
theorem d_Lw_work_9 : decode k_Lw_work.1 9 = .ok (.goto 9, 3) := by decide +kernel
theorem d_Lw_work_12 : decode k_Lw_work.1 12 = .ok (.astore_n 3, 1) := by decide +kernel
theorem d_Lw_work_13 : decode k_Lw_work.1 13 = .ok (.iconst 1, 1) := by decide +kernel
theorem d_Lw_work_14 : decode k_Lw_work.1 14 = .ok (.ireturn, 1) := by decide +kernel
theorem d_Lw_work_15 : decode k_Lw_work.1 15 = .ok (.astore_n 3, 1) := by decide +kernel
theorem d_Lw_work_16 : decode k_Lw_work.1 16 = .ok (.iconst 2, 1) := by decide +kernel
theorem d_Lw_work_17 : decode k_Lw_work.1 17 = .ok (.ireturn, 1) := by decide +kernel
theorem d_Lw_work_18 : decode k_Lw_work.1 18 = .ok (.iconst 0, 1) := by decide +kernel
theorem d_Lw_work_19 : decode k_Lw_work.1 19 = .ok (.ireturn, 1) := by decide +kernel
theorem d_Lw_type_0 : decode k_Lw_type.1 0 = .ok (.aload_n 2, 1) := by decide +kernel
theorem d_Lw_type_1 : decode k_Lw_type.1 1 = .ok (.iconst 0, 1) := by decide +kernel
theorem d_Lw_type_2 : decode k_Lw_type.1 2 = .ok (.aload_n 0, 1) := by decide +kernel
theorem d_Lw_type_3 : decode k_Lw_type.1 3 = .ok (.iload_n 1, 1) := by decide +kernel
theorem d_Lw_type_4 : decode k_Lw_type.1 4 = .ok (.invokevirtual 37, 3) := by decide +kernel
theorem d_Lw_type_7 : decode k_Lw_type.1 7 = .ok (.i2l, 1) := by decide +kernel
theorem d_Lw_type_8 : decode k_Lw_type.1 8 = .ok (.lastore, 1) := by decide +kernel
theorem d_Lw_type_9 : decode k_Lw_type.1 9 = .ok (.goto 9, 3) := by decide +kernel
theorem d_Lw_type_12 : decode k_Lw_type.1 12 = .ok (.astore_n 3, 1) := by decide +kernel
theorem d_Lw_type_13 : decode k_Lw_type.1 13 = .ok (.iconst 1, 1) := by decide +kernel
theorem d_Lw_type_14 : decode k_Lw_type.1 14 = .ok (.ireturn, 1) := by decide +kernel
theorem d_Lw_type_15 : decode k_Lw_type.1 15 = .ok (.astore_n 3, 1) := by decide +kernel
