theorem d_Tr_init_0 : decode k_Tr_init.1 0 = .ok (.aload_n 0, 1) := by decide +kernel
theorem d_Tr_init_1 : decode k_Tr_init.1 1 = .ok (.invokespecial 3, 3) := by decide +kernel
theorem d_Tr_init_4 : decode k_Tr_init.1 4 = .ok (.aload_n 0, 1) := by decide +kernel
theorem d_Tr_init_5 : decode k_Tr_init.1 5 = .ok (.bipush 16, 2) := by decide +kernel
theorem d_Tr_init_7 : decode k_Tr_init.1 7 = .ok (.newarray .int, 2) := by decide +kernel
theorem d_Tr_init_9 : decode k_Tr_init.1 9 = .ok (.putfield 9, 3) := by decide +kernel
theorem d_Tr_init_12 : decode k_Tr_init.1 12 = .ok (.aload_n 0, 1) := by decide +kernel
theorem d_Tr_init_13 : decode k_Tr_init.1 13 = .ok (.bipush 16, 2) := by decide +kernel
theorem d_Tr_init_15 : decode k_Tr_init.1 15 = .ok (.newarray .int, 2) := by decide +kernel
theorem d_Tr_init_17 : decode k_Tr_init.1 17 = .ok (.putfield 15, 3) := by decide +kernel
theorem d_Tr_init_20 : decode k_Tr_init.1 20 = .ok (.aload_n 0, 1) := by decide +kernel
theorem d_Tr_init_21 : decode k_Tr_init.1 21 = .ok (.bipush 16, 2) := by decide +kernel
theorem d_Tr_init_23 : decode k_Tr_init.1 23 = .ok (.bipush 60, 2) := by decide +kernel
theorem d_Tr_init_25 : decode k_Tr_init.1 25 = .ok (.multianewarray 18 2, 4) := by decide +kernel
theorem d_Tr_init_29 : decode k_Tr_init.1 29 = .ok (.putfield 20, 3) := by decide +kernel
theorem d_Tr_init_32 : decode k_Tr_init.1 32 = .ok (.aload_n 0, 1) := by decide +kernel
theorem d_Tr_init_33 : decode k_Tr_init.1 33 = .ok (.bipush 16, 2) := by decide +kernel
theorem d_Tr_init_35 : decode k_Tr_init.1 35 = .ok (.newarray .int, 2) := by decide +kernel
theorem d_Tr_init_37 : decode k_Tr_init.1 37 = .ok (.putfield 23, 3) := by decide +kernel
theorem d_Tr_init_40 : decode k_Tr_init.1 40 = .ok (.aload_n 0, 1) := by decide +kernel
theorem d_Tr_init_41 : decode k_Tr_init.1 41 = .ok (.getfield 9, 3) := by decide +kernel
theorem d_Tr_init_44 : decode k_Tr_init.1 44 = .ok (.iconst 0, 1) := by decide +kernel
theorem d_Tr_init_45 : decode k_Tr_init.1 45 = .ok (.iconst 1, 1) := by decide +kernel
theorem d_Tr_init_46 : decode k_Tr_init.1 46 = .ok (.iastore, 1) := by decide +kernel
theorem d_Tr_init_47 : decode k_Tr_init.1 47 = .ok (.return_, 1) := by decide +kernel
theorem d_Tr_isFile_0 : decode k_Tr_isFile.1 0 = .ok (.iload_n 1, 1) := by decide +kernel
theorem d_Tr_isFile_1 : decode k_Tr_isFile.1 1 = .ok (.invokestatic 26, 3) := by decide +kernel
theorem d_Tr_isFile_4 : decode k_Tr_isFile.1 4 = .ok (.ifCond .eq 17, 3) := by decide +kernel
theorem d_Tr_isFile_7 : decode k_Tr_isFile.1 7 = .ok (.aload_n 0, 1) := by decide +kernel
theorem d_Tr_isFile_8 : decode k_Tr_isFile.1 8 = .ok (.getfield 9, 3) := by decide +kernel
theorem d_Tr_isFile_11 : decode k_Tr_isFile.1 11 = .ok (.iload_n 1, 1) := by decide +kernel
theorem d_Tr_isFile_12 : decode k_Tr_isFile.1 12 = .ok (.iaload, 1) := by decide +kernel
theorem d_Tr_isFile_13 : decode k_Tr_isFile.1 13 = .ok (.iconst 2, 1) := by decide +kernel
theorem d_Tr_isFile_14 : decode k_Tr_isFile.1 14 = .ok (.if_icmp .ne 7, 3) := by decide +kernel
theorem d_Tr_isFile_17 : decode k_Tr_isFile.1 17 = .ok (.iconst 1, 1) := by decide +kernel
theorem d_Tr_isFile_18 : decode k_Tr_isFile.1 18 = .ok (.goto 4, 3) := by decide +kernel
theorem d_Tr_isFile_21 : decode k_Tr_isFile.1 21 = .ok (.iconst 0, 1) := by decide +kernel
theorem d_Tr_isFile_22 : decode k_Tr_isFile.1 22 = .ok (.ireturn, 1) := by decide +kernel
theorem d_Tr_contentOf_0 : decode k_Tr_contentOf.1 0 = .ok (.aload_n 0, 1) := by decide +kernel
theorem d_Tr_contentOf_1 : decode k_Tr_contentOf.1 1 = .ok (.getfield 20, 3) := by decide +kernel
theorem d_Tr_contentOf_4 : decode k_Tr_contentOf.1 4 = .ok (.iload_n 1, 1) := by decide +kernel
theorem d_Tr_contentOf_5 : decode k_Tr_contentOf.1 5 = .ok (.aaload, 1) := by decide +kernel
theorem d_Tr_contentOf_6 : decode k_Tr_contentOf.1 6 = .ok (.areturn, 1) := by decide +kernel
theorem d_Tr_lengthOf_0 : decode k_Tr_lengthOf.1 0 = .ok (.aload_n 0, 1) := by decide +kernel
theorem d_Tr_lengthOf_1 : decode k_Tr_lengthOf.1 1 = .ok (.getfield 23, 3) := by decide +kernel
theorem d_Tr_lengthOf_4 : decode k_Tr_lengthOf.1 4 = .ok (.iload_n 1, 1) := by decide +kernel
theorem d_Tr_lengthOf_5 : decode k_Tr_lengthOf.1 5 = .ok (.iaload, 1) := by decide +kernel
theorem d_Tr_lengthOf_6 : decode k_Tr_lengthOf.1 6 = .ok (.ireturn, 1) := by decide +kernel
theorem d_Tr_isThere_0 : decode k_Tr_isThere.1 0 = .ok (.iload_n 1, 1) := by decide +kernel
theorem d_Tr_isThere_1 : decode k_Tr_isThere.1 1 = .ok (.invokestatic 26, 3) := by decide +kernel
theorem d_Tr_isThere_4 : decode k_Tr_isThere.1 4 = .ok (.ifCond .eq 16, 3) := by decide +kernel
theorem d_Tr_isThere_7 : decode k_Tr_isThere.1 7 = .ok (.aload_n 0, 1) := by decide +kernel
theorem d_Tr_isThere_8 : decode k_Tr_isThere.1 8 = .ok (.getfield 9, 3) := by decide +kernel
theorem d_Tr_isThere_11 : decode k_Tr_isThere.1 11 = .ok (.iload_n 1, 1) := by decide +kernel
theorem d_Tr_isThere_12 : decode k_Tr_isThere.1 12 = .ok (.iaload, 1) := by decide +kernel
theorem d_Tr_isThere_13 : decode k_Tr_isThere.1 13 = .ok (.ifCond .eq 7, 3) := by decide +kernel
theorem d_Tr_isThere_16 : decode k_Tr_isThere.1 16 = .ok (.iconst 1, 1) := by decide +kernel
theorem d_Tr_isThere_17 : decode k_Tr_isThere.1 17 = .ok (.goto 4, 3) := by decide +kernel
theorem d_Tr_isThere_20 : decode k_Tr_isThere.1 20 = .ok (.iconst 0, 1) := by decide +kernel
theorem d_Tr_isThere_21 : decode k_Tr_isThere.1 21 = .ok (.ireturn, 1) := by decide +kernel
theorem d_Tr_isFolder_0 : decode k_Tr_isFolder.1 0 = .ok (.iload_n 1, 1) := by decide +kernel
theorem d_Tr_isFolder_1 : decode k_Tr_isFolder.1 1 = .ok (.invokestatic 26, 3) := by decide +kernel
theorem d_Tr_isFolder_4 : decode k_Tr_isFolder.1 4 = .ok (.ifCond .eq 17, 3) := by decide +kernel
theorem d_Tr_isFolder_7 : decode k_Tr_isFolder.1 7 = .ok (.aload_n 0, 1) := by decide +kernel
theorem d_Tr_isFolder_8 : decode k_Tr_isFolder.1 8 = .ok (.getfield 9, 3) := by decide +kernel
theorem d_Tr_isFolder_11 : decode k_Tr_isFolder.1 11 = .ok (.iload_n 1, 1) := by decide +kernel
theorem d_Tr_isFolder_12 : decode k_Tr_isFolder.1 12 = .ok (.iaload, 1) := by decide +kernel
theorem d_Tr_isFolder_13 : decode k_Tr_isFolder.1 13 = .ok (.iconst 1, 1) := by decide +kernel
theorem d_Tr_isFolder_14 : decode k_Tr_isFolder.1 14 = .ok (.if_icmp .ne 7, 3) := by decide +kernel
theorem d_Tr_isFolder_17 : decode k_Tr_isFolder.1 17 = .ok (.iconst 1, 1) := by decide +kernel
theorem d_Tr_isFolder_18 : decode k_Tr_isFolder.1 18 = .ok (.goto 4, 3) := by decide +kernel
theorem d_Tr_isFolder_21 : decode k_Tr_isFolder.1 21 = .ok (.iconst 0, 1) := by decide +kernel
theorem d_Tr_isFolder_22 : decode k_Tr_isFolder.1 22 = .ok (.ireturn, 1) := by decide +kernel
theorem d_Tr_put_0 : decode k_Tr_put.1 0 = .ok (.aload_n 0, 1) := by decide +kernel
theorem d_Tr_put_1 : decode k_Tr_put.1 1 = .ok (.getfield 9, 3) := by decide +kernel
theorem d_Tr_put_4 : decode k_Tr_put.1 4 = .ok (.iload_n 1, 1) := by decide +kernel
theorem d_Tr_put_5 : decode k_Tr_put.1 5 = .ok (.iload_n 3, 1) := by decide +kernel
theorem d_Tr_put_6 : decode k_Tr_put.1 6 = .ok (.ifCond .eq 7, 3) := by decide +kernel
theorem d_Tr_put_9 : decode k_Tr_put.1 9 = .ok (.iconst 1, 1) := by decide +kernel
theorem d_Tr_put_10 : decode k_Tr_put.1 10 = .ok (.goto 4, 3) := by decide +kernel
theorem d_Tr_put_13 : decode k_Tr_put.1 13 = .ok (.iconst 2, 1) := by decide +kernel
theorem d_Tr_put_14 : decode k_Tr_put.1 14 = .ok (.iastore, 1) := by decide +kernel
theorem d_Tr_put_15 : decode k_Tr_put.1 15 = .ok (.aload_n 0, 1) := by decide +kernel
theorem d_Tr_put_16 : decode k_Tr_put.1 16 = .ok (.getfield 15, 3) := by decide +kernel
theorem d_Tr_put_19 : decode k_Tr_put.1 19 = .ok (.iload_n 1, 1) := by decide +kernel
theorem d_Tr_put_20 : decode k_Tr_put.1 20 = .ok (.iload_n 2, 1) := by decide +kernel
theorem d_Tr_put_21 : decode k_Tr_put.1 21 = .ok (.iastore, 1) := by decide +kernel
theorem d_Tr_put_22 : decode k_Tr_put.1 22 = .ok (.aload_n 0, 1) := by decide +kernel
theorem d_Tr_put_23 : decode k_Tr_put.1 23 = .ok (.getfield 23, 3) := by decide +kernel
theorem d_Tr_put_26 : decode k_Tr_put.1 26 = .ok (.iload_n 1, 1) := by decide +kernel
theorem d_Tr_put_27 : decode k_Tr_put.1 27 = .ok (.iconst 0, 1) := by decide +kernel
theorem d_Tr_put_28 : decode k_Tr_put.1 28 = .ok (.iastore, 1) := by decide +kernel
theorem d_Tr_put_29 : decode k_Tr_put.1 29 = .ok (.return_, 1) := by decide +kernel
theorem d_Tr_append_0 : decode k_Tr_append.1 0 = .ok (.aload_n 0, 1) := by decide +kernel
theorem d_Tr_append_1 : decode k_Tr_append.1 1 = .ok (.getfield 20, 3) := by decide +kernel
theorem d_Tr_append_4 : decode k_Tr_append.1 4 = .ok (.iload_n 1, 1) := by decide +kernel
theorem d_Tr_append_5 : decode k_Tr_append.1 5 = .ok (.aaload, 1) := by decide +kernel
theorem d_Tr_append_6 : decode k_Tr_append.1 6 = .ok (.aload_n 0, 1) := by decide +kernel
theorem d_Tr_append_7 : decode k_Tr_append.1 7 = .ok (.getfield 23, 3) := by decide +kernel
theorem d_Tr_append_10 : decode k_Tr_append.1 10 = .ok (.iload_n 1, 1) := by decide +kernel
theorem d_Tr_append_11 : decode k_Tr_append.1 11 = .ok (.iaload, 1) := by decide +kernel
theorem d_Tr_append_12 : decode k_Tr_append.1 12 = .ok (.iload_n 2, 1) := by decide +kernel
theorem d_Tr_append_13 : decode k_Tr_append.1 13 = .ok (.iastore, 1) := by decide +kernel
theorem d_Tr_append_14 : decode k_Tr_append.1 14 = .ok (.aload_n 0, 1) := by decide +kernel
theorem d_Tr_append_15 : decode k_Tr_append.1 15 = .ok (.getfield 23, 3) := by decide +kernel
theorem d_Tr_append_18 : decode k_Tr_append.1 18 = .ok (.iload_n 1, 1) := by decide +kernel
theorem d_Tr_append_19 : decode k_Tr_append.1 19 = .ok (.dup2, 1) := by decide +kernel
theorem d_Tr_append_20 : decode k_Tr_append.1 20 = .ok (.iaload, 1) := by decide +kernel
theorem d_Tr_append_21 : decode k_Tr_append.1 21 = .ok (.iconst 1, 1) := by decide +kernel
theorem d_Tr_append_22 : decode k_Tr_append.1 22 = .ok (.iadd, 1) := by decide +kernel
theorem d_Tr_append_23 : decode k_Tr_append.1 23 = .ok (.iastore, 1) := by decide +kernel
theorem d_Tr_append_24 : decode k_Tr_append.1 24 = .ok (.return_, 1) := by decide +kernel
theorem d_Tr_shorten_0 : decode k_Tr_shorten.1 0 = .ok (.aload_n 0, 1) := by decide +kernel
theorem d_Tr_shorten_1 : decode k_Tr_shorten.1 1 = .ok (.getfield 23, 3) := by decide +kernel
theorem d_Tr_shorten_4 : decode k_Tr_shorten.1 4 = .ok (.iload_n 1, 1) := by decide +kernel
theorem d_Tr_shorten_5 : decode k_Tr_shorten.1 5 = .ok (.iload_n 2, 1) := by decide +kernel
theorem d_Tr_shorten_6 : decode k_Tr_shorten.1 6 = .ok (.iastore, 1) := by decide +kernel
theorem d_Tr_shorten_7 : decode k_Tr_shorten.1 7 = .ok (.return_, 1) := by decide +kernel
theorem d_Tr_isWithin_0 : decode k_Tr_isWithin.1 0 = .ok (.aload_n 0, 1) := by decide +kernel
theorem d_Tr_isWithin_1 : decode k_Tr_isWithin.1 1 = .ok (.iload_n 1, 1) := by decide +kernel
theorem d_Tr_isWithin_2 : decode k_Tr_isWithin.1 2 = .ok (.invokevirtual 30, 3) := by decide +kernel
theorem d_Tr_isWithin_5 : decode k_Tr_isWithin.1 5 = .ok (.ifCond .ne 5, 3) := by decide +kernel
theorem d_Tr_isWithin_8 : decode k_Tr_isWithin.1 8 = .ok (.iconst 0, 1) := by decide +kernel
theorem d_Tr_isWithin_9 : decode k_Tr_isWithin.1 9 = .ok (.ireturn, 1) := by decide +kernel
theorem d_Tr_isWithin_10 : decode k_Tr_isWithin.1 10 = .ok (.iload_n 1, 1) := by decide +kernel
theorem d_Tr_isWithin_11 : decode k_Tr_isWithin.1 11 = .ok (.istore_n 3, 1) := by decide +kernel
theorem d_Tr_isWithin_12 : decode k_Tr_isWithin.1 12 = .ok (.iconst 0, 1) := by decide +kernel
theorem d_Tr_isWithin_13 : decode k_Tr_isWithin.1 13 = .ok (.istore 4, 2) := by decide +kernel
theorem d_Tr_isWithin_15 : decode k_Tr_isWithin.1 15 = .ok (.iload 4, 2) := by decide +kernel
theorem d_Tr_isWithin_17 : decode k_Tr_isWithin.1 17 = .ok (.bipush 16, 2) := by decide +kernel
theorem d_Tr_isWithin_19 : decode k_Tr_isWithin.1 19 = .ok (.if_icmp .ge 27, 3) := by decide +kernel
theorem d_Tr_isWithin_22 : decode k_Tr_isWithin.1 22 = .ok (.iload_n 3, 1) := by decide +kernel
theorem d_Tr_isWithin_23 : decode k_Tr_isWithin.1 23 = .ok (.ifCond .eq 23, 3) := by decide +kernel
theorem d_Tr_isWithin_26 : decode k_Tr_isWithin.1 26 = .ok (.aload_n 0, 1) := by decide +kernel
theorem d_Tr_isWithin_27 : decode k_Tr_isWithin.1 27 = .ok (.getfield 15, 3) := by decide +kernel
theorem d_Tr_isWithin_30 : decode k_Tr_isWithin.1 30 = .ok (.iload_n 3, 1) := by decide +kernel
theorem d_Tr_isWithin_31 : decode k_Tr_isWithin.1 31 = .ok (.iaload, 1) := by decide +kernel
theorem d_Tr_isWithin_32 : decode k_Tr_isWithin.1 32 = .ok (.istore_n 3, 1) := by decide +kernel
theorem d_Tr_isWithin_33 : decode k_Tr_isWithin.1 33 = .ok (.iload_n 3, 1) := by decide +kernel
theorem d_Tr_isWithin_34 : decode k_Tr_isWithin.1 34 = .ok (.iload_n 2, 1) := by decide +kernel
theorem d_Tr_isWithin_35 : decode k_Tr_isWithin.1 35 = .ok (.if_icmp .ne 5, 3) := by decide +kernel
theorem d_Tr_isWithin_38 : decode k_Tr_isWithin.1 38 = .ok (.iconst 1, 1) := by decide +kernel
theorem d_Tr_isWithin_39 : decode k_Tr_isWithin.1 39 = .ok (.ireturn, 1) := by decide +kernel
theorem d_Tr_isWithin_40 : decode k_Tr_isWithin.1 40 = .ok (.iinc 4 1, 3) := by decide +kernel
theorem d_Tr_isWithin_43 : decode k_Tr_isWithin.1 43 = .ok (.goto (-28), 3) := by decide +kernel
theorem d_Tr_isWithin_46 : decode k_Tr_isWithin.1 46 = .ok (.iconst 0, 1) := by decide +kernel
theorem d_Tr_isWithin_47 : decode k_Tr_isWithin.1 47 = .ok (.ireturn, 1) := by decide +kernel
theorem d_Tr_drop_0 : decode k_Tr_drop.1 0 = .ok (.aload_n 0, 1) := by decide +kernel
theorem d_Tr_drop_1 : decode k_Tr_drop.1 1 = .ok (.getfield 9, 3) := by decide +kernel
theorem d_Tr_drop_4 : decode k_Tr_drop.1 4 = .ok (.iload_n 1, 1) := by decide +kernel
theorem d_Tr_drop_5 : decode k_Tr_drop.1 5 = .ok (.iconst 0, 1) := by decide +kernel
theorem d_Tr_drop_6 : decode k_Tr_drop.1 6 = .ok (.iastore, 1) := by decide +kernel
theorem d_Tr_drop_7 : decode k_Tr_drop.1 7 = .ok (.return_, 1) := by decide +kernel
theorem d_Tr_parentOf_0 : decode k_Tr_parentOf.1 0 = .ok (.aload_n 0, 1) := by decide +kernel
theorem d_Tr_parentOf_1 : decode k_Tr_parentOf.1 1 = .ok (.getfield 15, 3) := by decide +kernel
theorem d_Tr_parentOf_4 : decode k_Tr_parentOf.1 4 = .ok (.iload_n 1, 1) := by decide +kernel
theorem d_Tr_parentOf_5 : decode k_Tr_parentOf.1 5 = .ok (.iaload, 1) := by decide +kernel
theorem d_Tr_parentOf_6 : decode k_Tr_parentOf.1 6 = .ok (.ireturn, 1) := by decide +kernel
theorem d_Tr_hang_0 : decode k_Tr_hang.1 0 = .ok (.aload_n 0, 1) := by decide +kernel
theorem d_Tr_hang_1 : decode k_Tr_hang.1 1 = .ok (.getfield 15, 3) := by decide +kernel
theorem d_Tr_hang_4 : decode k_Tr_hang.1 4 = .ok (.iload_n 1, 1) := by decide +kernel
theorem d_Tr_hang_5 : decode k_Tr_hang.1 5 = .ok (.iload_n 2, 1) := by decide +kernel
theorem d_Tr_hang_6 : decode k_Tr_hang.1 6 = .ok (.iastore, 1) := by decide +kernel
theorem d_Tr_hang_7 : decode k_Tr_hang.1 7 = .ok (.return_, 1) := by decide +kernel
theorem d_Tr_nodesThere_0 : decode k_Tr_nodesThere.1 0 = .ok (.iconst 0, 1) := by decide +kernel
theorem d_Tr_nodesThere_1 : decode k_Tr_nodesThere.1 1 = .ok (.istore_n 1, 1) := by decide +kernel
theorem d_Tr_nodesThere_2 : decode k_Tr_nodesThere.1 2 = .ok (.iconst 0, 1) := by decide +kernel
theorem d_Tr_nodesThere_3 : decode k_Tr_nodesThere.1 3 = .ok (.istore_n 2, 1) := by decide +kernel
theorem d_Tr_nodesThere_4 : decode k_Tr_nodesThere.1 4 = .ok (.iload_n 2, 1) := by decide +kernel
theorem d_Tr_nodesThere_5 : decode k_Tr_nodesThere.1 5 = .ok (.bipush 16, 2) := by decide +kernel
theorem d_Tr_nodesThere_7 : decode k_Tr_nodesThere.1 7 = .ok (.if_icmp .ge 25, 3) := by decide +kernel
theorem d_Tr_nodesThere_10 : decode k_Tr_nodesThere.1 10 = .ok (.iload_n 1, 1) := by decide +kernel
theorem d_Tr_nodesThere_11 : decode k_Tr_nodesThere.1 11 = .ok (.aload_n 0, 1) := by decide +kernel
theorem d_Tr_nodesThere_12 : decode k_Tr_nodesThere.1 12 = .ok (.iload_n 2, 1) := by decide +kernel
theorem d_Tr_nodesThere_13 : decode k_Tr_nodesThere.1 13 = .ok (.invokevirtual 30, 3) := by decide +kernel
theorem d_Tr_nodesThere_16 : decode k_Tr_nodesThere.1 16 = .ok (.ifCond .eq 7, 3) := by decide +kernel
theorem d_Tr_nodesThere_19 : decode k_Tr_nodesThere.1 19 = .ok (.iconst 1, 1) := by decide +kernel
theorem d_Tr_nodesThere_20 : decode k_Tr_nodesThere.1 20 = .ok (.goto 4, 3) := by decide +kernel
theorem d_Tr_nodesThere_23 : decode k_Tr_nodesThere.1 23 = .ok (.iconst 0, 1) := by decide +kernel
theorem d_Tr_nodesThere_24 : decode k_Tr_nodesThere.1 24 = .ok (.iadd, 1) := by decide +kernel
theorem d_Tr_nodesThere_25 : decode k_Tr_nodesThere.1 25 = .ok (.istore_n 1, 1) := by decide +kernel
theorem d_Tr_nodesThere_26 : decode k_Tr_nodesThere.1 26 = .ok (.iinc 2 1, 3) := by decide +kernel
theorem d_Tr_nodesThere_29 : decode k_Tr_nodesThere.1 29 = .ok (.goto (-25), 3) := by decide +kernel
theorem d_Tr_nodesThere_32 : decode k_Tr_nodesThere.1 32 = .ok (.iload_n 1, 1) := by decide +kernel
theorem d_Tr_nodesThere_33 : decode k_Tr_nodesThere.1 33 = .ok (.ireturn, 1) := by decide +kernel
theorem d_Tr_filesThere_0 : decode k_Tr_filesThere.1 0 = .ok (.iconst 0, 1) := by decide +kernel
theorem d_Tr_filesThere_1 : decode k_Tr_filesThere.1 1 = .ok (.istore_n 1, 1) := by decide +kernel
theorem d_Tr_filesThere_2 : decode k_Tr_filesThere.1 2 = .ok (.iconst 0, 1) := by decide +kernel
theorem d_Tr_filesThere_3 : decode k_Tr_filesThere.1 3 = .ok (.istore_n 2, 1) := by decide +kernel
theorem d_Tr_filesThere_4 : decode k_Tr_filesThere.1 4 = .ok (.iload_n 2, 1) := by decide +kernel
theorem d_Tr_filesThere_5 : decode k_Tr_filesThere.1 5 = .ok (.bipush 16, 2) := by decide +kernel
theorem d_Tr_filesThere_7 : decode k_Tr_filesThere.1 7 = .ok (.if_icmp .ge 25, 3) := by decide +kernel
theorem d_Tr_filesThere_10 : decode k_Tr_filesThere.1 10 = .ok (.iload_n 1, 1) := by decide +kernel
theorem d_Tr_filesThere_11 : decode k_Tr_filesThere.1 11 = .ok (.aload_n 0, 1) := by decide +kernel
theorem d_Tr_filesThere_12 : decode k_Tr_filesThere.1 12 = .ok (.iload_n 2, 1) := by decide +kernel
theorem d_Tr_filesThere_13 : decode k_Tr_filesThere.1 13 = .ok (.invokevirtual 33, 3) := by decide +kernel
theorem d_Tr_filesThere_16 : decode k_Tr_filesThere.1 16 = .ok (.ifCond .eq 7, 3) := by decide +kernel
theorem d_Tr_filesThere_19 : decode k_Tr_filesThere.1 19 = .ok (.iconst 1, 1) := by decide +kernel
theorem d_Tr_filesThere_20 : decode k_Tr_filesThere.1 20 = .ok (.goto 4, 3) := by decide +kernel
theorem d_Tr_filesThere_23 : decode k_Tr_filesThere.1 23 = .ok (.iconst 0, 1) := by decide +kernel
theorem d_Tr_filesThere_24 : decode k_Tr_filesThere.1 24 = .ok (.iadd, 1) := by decide +kernel
theorem d_Tr_filesThere_25 : decode k_Tr_filesThere.1 25 = .ok (.istore_n 1, 1) := by decide +kernel
theorem d_Tr_filesThere_26 : decode k_Tr_filesThere.1 26 = .ok (.iinc 2 1, 3) := by decide +kernel
theorem d_Tr_filesThere_29 : decode k_Tr_filesThere.1 29 = .ok (.goto (-25), 3) := by decide +kernel
theorem d_Tr_filesThere_32 : decode k_Tr_filesThere.1 32 = .ok (.iload_n 1, 1) := by decide +kernel
theorem d_Tr_filesThere_33 : decode k_Tr_filesThere.1 33 = .ok (.ireturn, 1) := by decide +kernel
