theorem d_Fi_init_0 : decode k_Fi_init.1 0 = .ok (.aload_n 0, 1) := by decide +kernel
theorem d_Fi_init_1 : decode k_Fi_init.1 1 = .ok (.invokespecial 1, 3) := by decide +kernel
theorem d_Fi_init_4 : decode k_Fi_init.1 4 = .ok (.aload_n 0, 1) := by decide +kernel
theorem d_Fi_init_5 : decode k_Fi_init.1 5 = .ok (.new 7, 3) := by decide +kernel
theorem d_Fi_init_8 : decode k_Fi_init.1 8 = .ok (.dup, 1) := by decide +kernel
theorem d_Fi_init_9 : decode k_Fi_init.1 9 = .ok (.invokespecial 9, 3) := by decide +kernel
theorem d_Fi_init_12 : decode k_Fi_init.1 12 = .ok (.putfield 10, 3) := by decide +kernel
theorem d_Fi_init_15 : decode k_Fi_init.1 15 = .ok (.aload_n 0, 1) := by decide +kernel
theorem d_Fi_init_16 : decode k_Fi_init.1 16 = .ok (.new 16, 3) := by decide +kernel
theorem d_Fi_init_19 : decode k_Fi_init.1 19 = .ok (.dup, 1) := by decide +kernel
theorem d_Fi_init_20 : decode k_Fi_init.1 20 = .ok (.invokespecial 18, 3) := by decide +kernel
theorem d_Fi_init_23 : decode k_Fi_init.1 23 = .ok (.putfield 19, 3) := by decide +kernel
theorem d_Fi_init_26 : decode k_Fi_init.1 26 = .ok (.aload_n 0, 1) := by decide +kernel
theorem d_Fi_init_27 : decode k_Fi_init.1 27 = .ok (.new 23, 3) := by decide +kernel
theorem d_Fi_init_30 : decode k_Fi_init.1 30 = .ok (.dup, 1) := by decide +kernel
theorem d_Fi_init_31 : decode k_Fi_init.1 31 = .ok (.invokespecial 25, 3) := by decide +kernel
theorem d_Fi_init_34 : decode k_Fi_init.1 34 = .ok (.putfield 26, 3) := by decide +kernel
theorem d_Fi_init_37 : decode k_Fi_init.1 37 = .ok (.aload_n 0, 1) := by decide +kernel
theorem d_Fi_init_38 : decode k_Fi_init.1 38 = .ok (.new 30, 3) := by decide +kernel
theorem d_Fi_init_41 : decode k_Fi_init.1 41 = .ok (.dup, 1) := by decide +kernel
theorem d_Fi_init_42 : decode k_Fi_init.1 42 = .ok (.invokespecial 32, 3) := by decide +kernel
theorem d_Fi_init_45 : decode k_Fi_init.1 45 = .ok (.putfield 33, 3) := by decide +kernel
theorem d_Fi_init_48 : decode k_Fi_init.1 48 = .ok (.aload_n 0, 1) := by decide +kernel
theorem d_Fi_init_49 : decode k_Fi_init.1 49 = .ok (.new 37, 3) := by decide +kernel
theorem d_Fi_init_52 : decode k_Fi_init.1 52 = .ok (.dup, 1) := by decide +kernel
theorem d_Fi_init_53 : decode k_Fi_init.1 53 = .ok (.invokespecial 39, 3) := by decide +kernel
theorem d_Fi_init_56 : decode k_Fi_init.1 56 = .ok (.putfield 40, 3) := by decide +kernel
theorem d_Fi_init_59 : decode k_Fi_init.1 59 = .ok (.aload_n 0, 1) := by decide +kernel
theorem d_Fi_init_60 : decode k_Fi_init.1 60 = .ok (.iconst (-1), 1) := by decide +kernel
theorem d_Fi_init_61 : decode k_Fi_init.1 61 = .ok (.putfield 44, 3) := by decide +kernel
theorem d_Fi_init_64 : decode k_Fi_init.1 64 = .ok (.return_, 1) := by decide +kernel
theorem d_Fi_rescan_0 : decode k_Fi_rescan.1 0 = .ok (.iconst 0, 1) := by decide +kernel
theorem d_Fi_rescan_1 : decode k_Fi_rescan.1 1 = .ok (.istore_n 1, 1) := by decide +kernel
theorem d_Fi_rescan_2 : decode k_Fi_rescan.1 2 = .ok (.iconst 1, 1) := by decide +kernel
theorem d_Fi_rescan_3 : decode k_Fi_rescan.1 3 = .ok (.istore_n 2, 1) := by decide +kernel
theorem d_Fi_rescan_4 : decode k_Fi_rescan.1 4 = .ok (.iload_n 2, 1) := by decide +kernel
theorem d_Fi_rescan_5 : decode k_Fi_rescan.1 5 = .ok (.bipush 16, 2) := by decide +kernel
theorem d_Fi_rescan_7 : decode k_Fi_rescan.1 7 = .ok (.if_icmp .ge 39, 3) := by decide +kernel
theorem d_Fi_rescan_10 : decode k_Fi_rescan.1 10 = .ok (.aload_n 0, 1) := by decide +kernel
theorem d_Fi_rescan_11 : decode k_Fi_rescan.1 11 = .ok (.getfield 10, 3) := by decide +kernel
theorem d_Fi_rescan_14 : decode k_Fi_rescan.1 14 = .ok (.iload_n 2, 1) := by decide +kernel
theorem d_Fi_rescan_15 : decode k_Fi_rescan.1 15 = .ok (.invokevirtual 75, 3) := by decide +kernel
theorem d_Fi_rescan_18 : decode k_Fi_rescan.1 18 = .ok (.ifCond .eq 14, 3) := by decide +kernel
theorem d_Fi_rescan_21 : decode k_Fi_rescan.1 21 = .ok (.aload_n 0, 1) := by decide +kernel
theorem d_Fi_rescan_22 : decode k_Fi_rescan.1 22 = .ok (.iload_n 2, 1) := by decide +kernel
theorem d_Fi_rescan_23 : decode k_Fi_rescan.1 23 = .ok (.invokevirtual 139, 3) := by decide +kernel
theorem d_Fi_rescan_26 : decode k_Fi_rescan.1 26 = .ok (.iinc 1 1, 3) := by decide +kernel
theorem d_Fi_rescan_29 : decode k_Fi_rescan.1 29 = .ok (.goto 11, 3) := by decide +kernel
theorem d_Fi_rescan_32 : decode k_Fi_rescan.1 32 = .ok (.aload_n 0, 1) := by decide +kernel
theorem d_Fi_rescan_33 : decode k_Fi_rescan.1 33 = .ok (.getfield 26, 3) := by decide +kernel
theorem d_Fi_rescan_36 : decode k_Fi_rescan.1 36 = .ok (.iload_n 2, 1) := by decide +kernel
theorem d_Fi_rescan_37 : decode k_Fi_rescan.1 37 = .ok (.invokevirtual 142, 3) := by decide +kernel
theorem d_Fi_rescan_40 : decode k_Fi_rescan.1 40 = .ok (.iinc 2 1, 3) := by decide +kernel
theorem d_Fi_rescan_43 : decode k_Fi_rescan.1 43 = .ok (.goto (-39), 3) := by decide +kernel
theorem d_Fi_rescan_46 : decode k_Fi_rescan.1 46 = .ok (.aload_n 0, 1) := by decide +kernel
theorem d_Fi_rescan_47 : decode k_Fi_rescan.1 47 = .ok (.getfield 19, 3) := by decide +kernel
theorem d_Fi_rescan_50 : decode k_Fi_rescan.1 50 = .ok (.invokevirtual 145, 3) := by decide +kernel
theorem d_Fi_rescan_53 : decode k_Fi_rescan.1 53 = .ok (.iload_n 1, 1) := by decide +kernel
theorem d_Fi_rescan_54 : decode k_Fi_rescan.1 54 = .ok (.ireturn, 1) := by decide +kernel
theorem d_Fi_isNode_0 : decode k_Fi_isNode.1 0 = .ok (.iload_n 0, 1) := by decide +kernel
theorem d_Fi_isNode_1 : decode k_Fi_isNode.1 1 = .ok (.ifCond .lt 13, 3) := by decide +kernel
theorem d_Fi_isNode_4 : decode k_Fi_isNode.1 4 = .ok (.iload_n 0, 1) := by decide +kernel
theorem d_Fi_isNode_5 : decode k_Fi_isNode.1 5 = .ok (.bipush 16, 2) := by decide +kernel
theorem d_Fi_isNode_7 : decode k_Fi_isNode.1 7 = .ok (.if_icmp .ge 7, 3) := by decide +kernel
theorem d_Fi_isNode_10 : decode k_Fi_isNode.1 10 = .ok (.iconst 1, 1) := by decide +kernel
theorem d_Fi_isNode_11 : decode k_Fi_isNode.1 11 = .ok (.goto 4, 3) := by decide +kernel
theorem d_Fi_isNode_14 : decode k_Fi_isNode.1 14 = .ok (.iconst 0, 1) := by decide +kernel
theorem d_Fi_isNode_15 : decode k_Fi_isNode.1 15 = .ok (.ireturn, 1) := by decide +kernel
theorem d_Fi_readFile_0 : decode k_Fi_readFile.1 0 = .ok (.aload_n 0, 1) := by decide +kernel
theorem d_Fi_readFile_1 : decode k_Fi_readFile.1 1 = .ok (.getfield 26, 3) := by decide +kernel
theorem d_Fi_readFile_4 : decode k_Fi_readFile.1 4 = .ok (.iload_n 1, 1) := by decide +kernel
theorem d_Fi_readFile_5 : decode k_Fi_readFile.1 5 = .ok (.aload_n 0, 1) := by decide +kernel
theorem d_Fi_readFile_6 : decode k_Fi_readFile.1 6 = .ok (.getfield 10, 3) := by decide +kernel
theorem d_Fi_readFile_9 : decode k_Fi_readFile.1 9 = .ok (.iload_n 1, 1) := by decide +kernel
theorem d_Fi_readFile_10 : decode k_Fi_readFile.1 10 = .ok (.invokevirtual 197, 3) := by decide +kernel
theorem d_Fi_readFile_13 : decode k_Fi_readFile.1 13 = .ok (.aload_n 0, 1) := by decide +kernel
theorem d_Fi_readFile_14 : decode k_Fi_readFile.1 14 = .ok (.getfield 10, 3) := by decide +kernel
theorem d_Fi_readFile_17 : decode k_Fi_readFile.1 17 = .ok (.iload_n 1, 1) := by decide +kernel
theorem d_Fi_readFile_18 : decode k_Fi_readFile.1 18 = .ok (.invokevirtual 85, 3) := by decide +kernel
theorem d_Fi_readFile_21 : decode k_Fi_readFile.1 21 = .ok (.invokevirtual 201, 3) := by decide +kernel
theorem d_Fi_readFile_24 : decode k_Fi_readFile.1 24 = .ok (.return_, 1) := by decide +kernel
theorem d_Fi_isLetter_0 : decode k_Fi_isLetter.1 0 = .ok (.iload_n 0, 1) := by decide +kernel
theorem d_Fi_isLetter_1 : decode k_Fi_isLetter.1 1 = .ok (.bipush 97, 2) := by decide +kernel
theorem d_Fi_isLetter_3 : decode k_Fi_isLetter.1 3 = .ok (.if_icmp .lt 9, 3) := by decide +kernel
theorem d_Fi_isLetter_6 : decode k_Fi_isLetter.1 6 = .ok (.iload_n 0, 1) := by decide +kernel
theorem d_Fi_isLetter_7 : decode k_Fi_isLetter.1 7 = .ok (.bipush 122, 2) := by decide +kernel
theorem d_Fi_isLetter_9 : decode k_Fi_isLetter.1 9 = .ok (.if_icmp .le 15, 3) := by decide +kernel
theorem d_Fi_isLetter_12 : decode k_Fi_isLetter.1 12 = .ok (.iload_n 0, 1) := by decide +kernel
theorem d_Fi_isLetter_13 : decode k_Fi_isLetter.1 13 = .ok (.bipush 65, 2) := by decide +kernel
theorem d_Fi_isLetter_15 : decode k_Fi_isLetter.1 15 = .ok (.if_icmp .lt 13, 3) := by decide +kernel
theorem d_Fi_isLetter_18 : decode k_Fi_isLetter.1 18 = .ok (.iload_n 0, 1) := by decide +kernel
theorem d_Fi_isLetter_19 : decode k_Fi_isLetter.1 19 = .ok (.bipush 90, 2) := by decide +kernel
theorem d_Fi_isLetter_21 : decode k_Fi_isLetter.1 21 = .ok (.if_icmp .gt 7, 3) := by decide +kernel
theorem d_Fi_isLetter_24 : decode k_Fi_isLetter.1 24 = .ok (.iconst 1, 1) := by decide +kernel
theorem d_Fi_isLetter_25 : decode k_Fi_isLetter.1 25 = .ok (.goto 4, 3) := by decide +kernel
theorem d_Fi_isLetter_28 : decode k_Fi_isLetter.1 28 = .ok (.iconst 0, 1) := by decide +kernel
theorem d_Fi_isLetter_29 : decode k_Fi_isLetter.1 29 = .ok (.ireturn, 1) := by decide +kernel
theorem d_Fi_withLetter_0 : decode k_Fi_withLetter.1 0 = .ok (.iload_n 3, 1) := by decide +kernel
theorem d_Fi_withLetter_1 : decode k_Fi_withLetter.1 1 = .ok (.bipush 32, 2) := by decide +kernel
theorem d_Fi_withLetter_3 : decode k_Fi_withLetter.1 3 = .ok (.ior, 1) := by decide +kernel
theorem d_Fi_withLetter_4 : decode k_Fi_withLetter.1 4 = .ok (.i2l, 1) := by decide +kernel
theorem d_Fi_withLetter_5 : decode k_Fi_withLetter.1 5 = .ok (.lstore 4, 2) := by decide +kernel
theorem d_Fi_withLetter_7 : decode k_Fi_withLetter.1 7 = .ok (.lload_n 0, 1) := by decide +kernel
theorem d_Fi_withLetter_8 : decode k_Fi_withLetter.1 8 = .ok (.lload 4, 2) := by decide +kernel
theorem d_Fi_withLetter_10 : decode k_Fi_withLetter.1 10 = .ok (.bipush 8, 2) := by decide +kernel
theorem d_Fi_withLetter_12 : decode k_Fi_withLetter.1 12 = .ok (.bipush 7, 2) := by decide +kernel
theorem d_Fi_withLetter_14 : decode k_Fi_withLetter.1 14 = .ok (.iload_n 2, 1) := by decide +kernel
theorem d_Fi_withLetter_15 : decode k_Fi_withLetter.1 15 = .ok (.isub, 1) := by decide +kernel
theorem d_Fi_withLetter_16 : decode k_Fi_withLetter.1 16 = .ok (.imul, 1) := by decide +kernel
theorem d_Fi_withLetter_17 : decode k_Fi_withLetter.1 17 = .ok (.lshl, 1) := by decide +kernel
theorem d_Fi_withLetter_18 : decode k_Fi_withLetter.1 18 = .ok (.lor, 1) := by decide +kernel
theorem d_Fi_withLetter_19 : decode k_Fi_withLetter.1 19 = .ok (.lreturn, 1) := by decide +kernel
theorem d_Fi_fault_0 : decode k_Fi_fault.1 0 = .ok (.aload_n 0, 1) := by decide +kernel
theorem d_Fi_fault_1 : decode k_Fi_fault.1 1 = .ok (.getfield 44, 3) := by decide +kernel
theorem d_Fi_fault_4 : decode k_Fi_fault.1 4 = .ok (.ireturn, 1) := by decide +kernel
theorem d_Fi_make_0 : decode k_Fi_make.1 0 = .ok (.iload_n 1, 1) := by decide +kernel
theorem d_Fi_make_1 : decode k_Fi_make.1 1 = .ok (.invokestatic 48, 3) := by decide +kernel
theorem d_Fi_make_4 : decode k_Fi_make.1 4 = .ok (.ifCond .eq 10, 3) := by decide +kernel
theorem d_Fi_make_7 : decode k_Fi_make.1 7 = .ok (.iload_n 2, 1) := by decide +kernel
theorem d_Fi_make_8 : decode k_Fi_make.1 8 = .ok (.invokestatic 52, 3) := by decide +kernel
theorem d_Fi_make_11 : decode k_Fi_make.1 11 = .ok (.ifCond .ne 11, 3) := by decide +kernel
theorem d_Fi_make_14 : decode k_Fi_make.1 14 = .ok (.new 55, 3) := by decide +kernel
theorem d_Fi_make_17 : decode k_Fi_make.1 17 = .ok (.dup, 1) := by decide +kernel
theorem d_Fi_make_18 : decode k_Fi_make.1 18 = .ok (.invokespecial 57, 3) := by decide +kernel
theorem d_Fi_make_21 : decode k_Fi_make.1 21 = .ok (.athrow, 1) := by decide +kernel
theorem d_Fi_make_22 : decode k_Fi_make.1 22 = .ok (.aload_n 0, 1) := by decide +kernel
theorem d_Fi_make_23 : decode k_Fi_make.1 23 = .ok (.getfield 10, 3) := by decide +kernel
theorem d_Fi_make_26 : decode k_Fi_make.1 26 = .ok (.iload_n 1, 1) := by decide +kernel
theorem d_Fi_make_27 : decode k_Fi_make.1 27 = .ok (.invokevirtual 58, 3) := by decide +kernel
theorem d_Fi_make_30 : decode k_Fi_make.1 30 = .ok (.ifCond .ne 14, 3) := by decide +kernel
theorem d_Fi_make_33 : decode k_Fi_make.1 33 = .ok (.aload_n 0, 1) := by decide +kernel
theorem d_Fi_make_34 : decode k_Fi_make.1 34 = .ok (.getfield 10, 3) := by decide +kernel
theorem d_Fi_make_37 : decode k_Fi_make.1 37 = .ok (.iload_n 2, 1) := by decide +kernel
theorem d_Fi_make_38 : decode k_Fi_make.1 38 = .ok (.invokevirtual 61, 3) := by decide +kernel
theorem d_Fi_make_41 : decode k_Fi_make.1 41 = .ok (.ifCond .ne 11, 3) := by decide +kernel
theorem d_Fi_make_44 : decode k_Fi_make.1 44 = .ok (.new 64, 3) := by decide +kernel
theorem d_Fi_make_47 : decode k_Fi_make.1 47 = .ok (.dup, 1) := by decide +kernel
theorem d_Fi_make_48 : decode k_Fi_make.1 48 = .ok (.invokespecial 66, 3) := by decide +kernel
theorem d_Fi_make_51 : decode k_Fi_make.1 51 = .ok (.athrow, 1) := by decide +kernel
theorem d_Fi_make_52 : decode k_Fi_make.1 52 = .ok (.aload_n 0, 1) := by decide +kernel
theorem d_Fi_make_53 : decode k_Fi_make.1 53 = .ok (.getfield 10, 3) := by decide +kernel
theorem d_Fi_make_56 : decode k_Fi_make.1 56 = .ok (.iload_n 1, 1) := by decide +kernel
theorem d_Fi_make_57 : decode k_Fi_make.1 57 = .ok (.iload_n 2, 1) := by decide +kernel
theorem d_Fi_make_58 : decode k_Fi_make.1 58 = .ok (.iload_n 3, 1) := by decide +kernel
theorem d_Fi_make_59 : decode k_Fi_make.1 59 = .ok (.invokevirtual 67, 3) := by decide +kernel
theorem d_Fi_make_62 : decode k_Fi_make.1 62 = .ok (.iload_n 3, 1) := by decide +kernel
theorem d_Fi_make_63 : decode k_Fi_make.1 63 = .ok (.ifCond .ne 12, 3) := by decide +kernel
theorem d_Fi_make_66 : decode k_Fi_make.1 66 = .ok (.aload_n 0, 1) := by decide +kernel
theorem d_Fi_make_67 : decode k_Fi_make.1 67 = .ok (.getfield 19, 3) := by decide +kernel
theorem d_Fi_make_70 : decode k_Fi_make.1 70 = .ok (.iload_n 1, 1) := by decide +kernel
theorem d_Fi_make_71 : decode k_Fi_make.1 71 = .ok (.iconst 1, 1) := by decide +kernel
theorem d_Fi_make_72 : decode k_Fi_make.1 72 = .ok (.invokevirtual 71, 3) := by decide +kernel
theorem d_Fi_make_75 : decode k_Fi_make.1 75 = .ok (.iconst 1, 1) := by decide +kernel
theorem d_Fi_make_76 : decode k_Fi_make.1 76 = .ok (.ireturn, 1) := by decide +kernel
theorem d_Fi_isNodeBelowRoot_0 : decode k_Fi_isNodeBelowRoot.1 0 = .ok (.iload_n 0, 1) := by decide +kernel
theorem d_Fi_isNodeBelowRoot_1 : decode k_Fi_isNodeBelowRoot.1 1 = .ok (.iconst 1, 1) := by decide +kernel
theorem d_Fi_isNodeBelowRoot_2 : decode k_Fi_isNodeBelowRoot.1 2 = .ok (.if_icmp .lt 13, 3) := by decide +kernel
theorem d_Fi_isNodeBelowRoot_5 : decode k_Fi_isNodeBelowRoot.1 5 = .ok (.iload_n 0, 1) := by decide +kernel
theorem d_Fi_isNodeBelowRoot_6 : decode k_Fi_isNodeBelowRoot.1 6 = .ok (.bipush 16, 2) := by decide +kernel
theorem d_Fi_isNodeBelowRoot_8 : decode k_Fi_isNodeBelowRoot.1 8 = .ok (.if_icmp .ge 7, 3) := by decide +kernel
theorem d_Fi_isNodeBelowRoot_11 : decode k_Fi_isNodeBelowRoot.1 11 = .ok (.iconst 1, 1) := by decide +kernel
theorem d_Fi_isNodeBelowRoot_12 : decode k_Fi_isNodeBelowRoot.1 12 = .ok (.goto 4, 3) := by decide +kernel
theorem d_Fi_isNodeBelowRoot_15 : decode k_Fi_isNodeBelowRoot.1 15 = .ok (.iconst 0, 1) := by decide +kernel
theorem d_Fi_isNodeBelowRoot_16 : decode k_Fi_isNodeBelowRoot.1 16 = .ok (.ireturn, 1) := by decide +kernel
theorem d_Fi_write_0 : decode k_Fi_write.1 0 = .ok (.aload_n 0, 1) := by decide +kernel
theorem d_Fi_write_1 : decode k_Fi_write.1 1 = .ok (.getfield 10, 3) := by decide +kernel
theorem d_Fi_write_4 : decode k_Fi_write.1 4 = .ok (.iload_n 1, 1) := by decide +kernel
theorem d_Fi_write_5 : decode k_Fi_write.1 5 = .ok (.invokevirtual 75, 3) := by decide +kernel
theorem d_Fi_write_8 : decode k_Fi_write.1 8 = .ok (.ifCond .ne 11, 3) := by decide +kernel
theorem d_Fi_write_11 : decode k_Fi_write.1 11 = .ok (.new 78, 3) := by decide +kernel
theorem d_Fi_write_14 : decode k_Fi_write.1 14 = .ok (.dup, 1) := by decide +kernel
theorem d_Fi_write_15 : decode k_Fi_write.1 15 = .ok (.invokespecial 80, 3) := by decide +kernel
theorem d_Fi_write_18 : decode k_Fi_write.1 18 = .ok (.athrow, 1) := by decide +kernel
theorem d_Fi_write_19 : decode k_Fi_write.1 19 = .ok (.iload 4, 2) := by decide +kernel
theorem d_Fi_write_21 : decode k_Fi_write.1 21 = .ok (.iconst 1, 1) := by decide +kernel
theorem d_Fi_write_22 : decode k_Fi_write.1 22 = .ok (.if_icmp .lt 19, 3) := by decide +kernel
theorem d_Fi_write_25 : decode k_Fi_write.1 25 = .ok (.iload 4, 2) := by decide +kernel
theorem d_Fi_write_27 : decode k_Fi_write.1 27 = .ok (.bipush 8, 2) := by decide +kernel
theorem d_Fi_write_29 : decode k_Fi_write.1 29 = .ok (.if_icmp .gt 12, 3) := by decide +kernel
theorem d_Fi_write_32 : decode k_Fi_write.1 32 = .ok (.lload_n 2, 1) := by decide +kernel
theorem d_Fi_write_33 : decode k_Fi_write.1 33 = .ok (.iload 4, 2) := by decide +kernel
theorem d_Fi_write_35 : decode k_Fi_write.1 35 = .ok (.invokestatic 81, 3) := by decide +kernel
theorem d_Fi_write_38 : decode k_Fi_write.1 38 = .ok (.ifCond .ne 11, 3) := by decide +kernel
theorem d_Fi_write_41 : decode k_Fi_write.1 41 = .ok (.new 55, 3) := by decide +kernel
theorem d_Fi_write_44 : decode k_Fi_write.1 44 = .ok (.dup, 1) := by decide +kernel
theorem d_Fi_write_45 : decode k_Fi_write.1 45 = .ok (.invokespecial 57, 3) := by decide +kernel
theorem d_Fi_write_48 : decode k_Fi_write.1 48 = .ok (.athrow, 1) := by decide +kernel
theorem d_Fi_write_49 : decode k_Fi_write.1 49 = .ok (.aload_n 0, 1) := by decide +kernel
theorem d_Fi_write_50 : decode k_Fi_write.1 50 = .ok (.getfield 10, 3) := by decide +kernel
theorem d_Fi_write_53 : decode k_Fi_write.1 53 = .ok (.iload_n 1, 1) := by decide +kernel
theorem d_Fi_write_54 : decode k_Fi_write.1 54 = .ok (.invokevirtual 85, 3) := by decide +kernel
theorem d_Fi_write_57 : decode k_Fi_write.1 57 = .ok (.iload 4, 2) := by decide +kernel
theorem d_Fi_write_59 : decode k_Fi_write.1 59 = .ok (.iadd, 1) := by decide +kernel
theorem d_Fi_write_60 : decode k_Fi_write.1 60 = .ok (.bipush 60, 2) := by decide +kernel
theorem d_Fi_write_62 : decode k_Fi_write.1 62 = .ok (.if_icmp .le 11, 3) := by decide +kernel
theorem d_Fi_write_65 : decode k_Fi_write.1 65 = .ok (.new 64, 3) := by decide +kernel
theorem d_Fi_write_68 : decode k_Fi_write.1 68 = .ok (.dup, 1) := by decide +kernel
theorem d_Fi_write_69 : decode k_Fi_write.1 69 = .ok (.invokespecial 66, 3) := by decide +kernel
theorem d_Fi_write_72 : decode k_Fi_write.1 72 = .ok (.athrow, 1) := by decide +kernel
theorem d_Fi_write_73 : decode k_Fi_write.1 73 = .ok (.iload 4, 2) := by decide +kernel
theorem d_Fi_write_75 : decode k_Fi_write.1 75 = .ok (.iconst 1, 1) := by decide +kernel
theorem d_Fi_write_76 : decode k_Fi_write.1 76 = .ok (.isub, 1) := by decide +kernel
theorem d_Fi_write_77 : decode k_Fi_write.1 77 = .ok (.istore 5, 2) := by decide +kernel
theorem d_Fi_write_79 : decode k_Fi_write.1 79 = .ok (.iload 5, 2) := by decide +kernel
theorem d_Fi_write_81 : decode k_Fi_write.1 81 = .ok (.ifCond .lt 23, 3) := by decide +kernel
theorem d_Fi_write_84 : decode k_Fi_write.1 84 = .ok (.aload_n 0, 1) := by decide +kernel
theorem d_Fi_write_85 : decode k_Fi_write.1 85 = .ok (.getfield 10, 3) := by decide +kernel
theorem d_Fi_write_88 : decode k_Fi_write.1 88 = .ok (.iload_n 1, 1) := by decide +kernel
theorem d_Fi_write_89 : decode k_Fi_write.1 89 = .ok (.lload_n 2, 1) := by decide +kernel
theorem d_Fi_write_90 : decode k_Fi_write.1 90 = .ok (.iload 5, 2) := by decide +kernel
theorem d_Fi_write_92 : decode k_Fi_write.1 92 = .ok (.invokestatic 89, 3) := by decide +kernel
theorem d_Fi_write_95 : decode k_Fi_write.1 95 = .ok (.invokevirtual 93, 3) := by decide +kernel
theorem d_Fi_write_98 : decode k_Fi_write.1 98 = .ok (.iinc 5 (-1), 3) := by decide +kernel
theorem d_Fi_write_101 : decode k_Fi_write.1 101 = .ok (.goto (-22), 3) := by decide +kernel
theorem d_Fi_write_104 : decode k_Fi_write.1 104 = .ok (.aload_n 0, 1) := by decide +kernel
theorem d_Fi_write_105 : decode k_Fi_write.1 105 = .ok (.getfield 19, 3) := by decide +kernel
theorem d_Fi_write_108 : decode k_Fi_write.1 108 = .ok (.iload_n 1, 1) := by decide +kernel
theorem d_Fi_write_109 : decode k_Fi_write.1 109 = .ok (.iconst 2, 1) := by decide +kernel
theorem d_Fi_write_110 : decode k_Fi_write.1 110 = .ok (.invokevirtual 71, 3) := by decide +kernel
theorem d_Fi_write_113 : decode k_Fi_write.1 113 = .ok (.aload_n 0, 1) := by decide +kernel
theorem d_Fi_write_114 : decode k_Fi_write.1 114 = .ok (.getfield 10, 3) := by decide +kernel
theorem d_Fi_write_117 : decode k_Fi_write.1 117 = .ok (.iload_n 1, 1) := by decide +kernel
theorem d_Fi_write_118 : decode k_Fi_write.1 118 = .ok (.invokevirtual 85, 3) := by decide +kernel
theorem d_Fi_write_121 : decode k_Fi_write.1 121 = .ok (.ireturn, 1) := by decide +kernel
theorem d_Fi_areCodes_0 : decode k_Fi_areCodes.1 0 = .ok (.iconst 0, 1) := by decide +kernel
theorem d_Fi_areCodes_1 : decode k_Fi_areCodes.1 1 = .ok (.istore_n 3, 1) := by decide +kernel
theorem d_Fi_areCodes_2 : decode k_Fi_areCodes.1 2 = .ok (.iload_n 3, 1) := by decide +kernel
theorem d_Fi_areCodes_3 : decode k_Fi_areCodes.1 3 = .ok (.iload_n 2, 1) := by decide +kernel
theorem d_Fi_areCodes_4 : decode k_Fi_areCodes.1 4 = .ok (.if_icmp .ge 22, 3) := by decide +kernel
theorem d_Fi_areCodes_7 : decode k_Fi_areCodes.1 7 = .ok (.lload_n 0, 1) := by decide +kernel
theorem d_Fi_areCodes_8 : decode k_Fi_areCodes.1 8 = .ok (.iload_n 3, 1) := by decide +kernel
theorem d_Fi_areCodes_9 : decode k_Fi_areCodes.1 9 = .ok (.invokestatic 89, 3) := by decide +kernel
theorem d_Fi_areCodes_12 : decode k_Fi_areCodes.1 12 = .ok (.invokestatic 148, 3) := by decide +kernel
theorem d_Fi_areCodes_15 : decode k_Fi_areCodes.1 15 = .ok (.ifCond .ne 5, 3) := by decide +kernel
theorem d_Fi_areCodes_18 : decode k_Fi_areCodes.1 18 = .ok (.iconst 0, 1) := by decide +kernel
theorem d_Fi_areCodes_19 : decode k_Fi_areCodes.1 19 = .ok (.ireturn, 1) := by decide +kernel
theorem d_Fi_areCodes_20 : decode k_Fi_areCodes.1 20 = .ok (.iinc 3 1, 3) := by decide +kernel
theorem d_Fi_areCodes_23 : decode k_Fi_areCodes.1 23 = .ok (.goto (-21), 3) := by decide +kernel
theorem d_Fi_areCodes_26 : decode k_Fi_areCodes.1 26 = .ok (.iconst 1, 1) := by decide +kernel
theorem d_Fi_areCodes_27 : decode k_Fi_areCodes.1 27 = .ok (.ireturn, 1) := by decide +kernel
theorem d_Fi_byteOf_0 : decode k_Fi_byteOf.1 0 = .ok (.lload_n 0, 1) := by decide +kernel
theorem d_Fi_byteOf_1 : decode k_Fi_byteOf.1 1 = .ok (.bipush 8, 2) := by decide +kernel
theorem d_Fi_byteOf_3 : decode k_Fi_byteOf.1 3 = .ok (.iload_n 2, 1) := by decide +kernel
theorem d_Fi_byteOf_4 : decode k_Fi_byteOf.1 4 = .ok (.imul, 1) := by decide +kernel
theorem d_Fi_byteOf_5 : decode k_Fi_byteOf.1 5 = .ok (.lushr, 1) := by decide +kernel
theorem d_Fi_byteOf_6 : decode k_Fi_byteOf.1 6 = .ok (.l2i, 1) := by decide +kernel
theorem d_Fi_byteOf_7 : decode k_Fi_byteOf.1 7 = .ok (.sipush 255, 3) := by decide +kernel
theorem d_Fi_byteOf_10 : decode k_Fi_byteOf.1 10 = .ok (.iand, 1) := by decide +kernel
theorem d_Fi_byteOf_11 : decode k_Fi_byteOf.1 11 = .ok (.ireturn, 1) := by decide +kernel
theorem d_Fi_isCode_0 : decode k_Fi_isCode.1 0 = .ok (.iload_n 0, 1) := by decide +kernel
theorem d_Fi_isCode_1 : decode k_Fi_isCode.1 1 = .ok (.bipush 32, 2) := by decide +kernel
theorem d_Fi_isCode_3 : decode k_Fi_isCode.1 3 = .ok (.if_icmp .lt 13, 3) := by decide +kernel
theorem d_Fi_isCode_6 : decode k_Fi_isCode.1 6 = .ok (.iload_n 0, 1) := by decide +kernel
theorem d_Fi_isCode_7 : decode k_Fi_isCode.1 7 = .ok (.bipush 126, 2) := by decide +kernel
theorem d_Fi_isCode_9 : decode k_Fi_isCode.1 9 = .ok (.if_icmp .gt 7, 3) := by decide +kernel
theorem d_Fi_isCode_12 : decode k_Fi_isCode.1 12 = .ok (.iconst 1, 1) := by decide +kernel
theorem d_Fi_isCode_13 : decode k_Fi_isCode.1 13 = .ok (.goto 4, 3) := by decide +kernel
theorem d_Fi_isCode_16 : decode k_Fi_isCode.1 16 = .ok (.iconst 0, 1) := by decide +kernel
theorem d_Fi_isCode_17 : decode k_Fi_isCode.1 17 = .ok (.ireturn, 1) := by decide +kernel
theorem d_Fi_cut_0 : decode k_Fi_cut.1 0 = .ok (.aload_n 0, 1) := by decide +kernel
theorem d_Fi_cut_1 : decode k_Fi_cut.1 1 = .ok (.getfield 10, 3) := by decide +kernel
theorem d_Fi_cut_4 : decode k_Fi_cut.1 4 = .ok (.iload_n 1, 1) := by decide +kernel
theorem d_Fi_cut_5 : decode k_Fi_cut.1 5 = .ok (.invokevirtual 75, 3) := by decide +kernel
theorem d_Fi_cut_8 : decode k_Fi_cut.1 8 = .ok (.ifCond .ne 11, 3) := by decide +kernel
theorem d_Fi_cut_11 : decode k_Fi_cut.1 11 = .ok (.new 78, 3) := by decide +kernel
theorem d_Fi_cut_14 : decode k_Fi_cut.1 14 = .ok (.dup, 1) := by decide +kernel
theorem d_Fi_cut_15 : decode k_Fi_cut.1 15 = .ok (.invokespecial 80, 3) := by decide +kernel
theorem d_Fi_cut_18 : decode k_Fi_cut.1 18 = .ok (.athrow, 1) := by decide +kernel
theorem d_Fi_cut_19 : decode k_Fi_cut.1 19 = .ok (.iload_n 2, 1) := by decide +kernel
theorem d_Fi_cut_20 : decode k_Fi_cut.1 20 = .ok (.ifCond .lt 15, 3) := by decide +kernel
theorem d_Fi_cut_23 : decode k_Fi_cut.1 23 = .ok (.iload_n 2, 1) := by decide +kernel
theorem d_Fi_cut_24 : decode k_Fi_cut.1 24 = .ok (.aload_n 0, 1) := by decide +kernel
theorem d_Fi_cut_25 : decode k_Fi_cut.1 25 = .ok (.getfield 10, 3) := by decide +kernel
theorem d_Fi_cut_28 : decode k_Fi_cut.1 28 = .ok (.iload_n 1, 1) := by decide +kernel
theorem d_Fi_cut_29 : decode k_Fi_cut.1 29 = .ok (.invokevirtual 85, 3) := by decide +kernel
theorem d_Fi_cut_32 : decode k_Fi_cut.1 32 = .ok (.if_icmp .le 11, 3) := by decide +kernel
theorem d_Fi_cut_35 : decode k_Fi_cut.1 35 = .ok (.new 55, 3) := by decide +kernel
theorem d_Fi_cut_38 : decode k_Fi_cut.1 38 = .ok (.dup, 1) := by decide +kernel
theorem d_Fi_cut_39 : decode k_Fi_cut.1 39 = .ok (.invokespecial 57, 3) := by decide +kernel
theorem d_Fi_cut_42 : decode k_Fi_cut.1 42 = .ok (.athrow, 1) := by decide +kernel
theorem d_Fi_cut_43 : decode k_Fi_cut.1 43 = .ok (.aload_n 0, 1) := by decide +kernel
theorem d_Fi_cut_44 : decode k_Fi_cut.1 44 = .ok (.getfield 10, 3) := by decide +kernel
theorem d_Fi_cut_47 : decode k_Fi_cut.1 47 = .ok (.iload_n 1, 1) := by decide +kernel
theorem d_Fi_cut_48 : decode k_Fi_cut.1 48 = .ok (.invokevirtual 85, 3) := by decide +kernel
theorem d_Fi_cut_51 : decode k_Fi_cut.1 51 = .ok (.iload_n 2, 1) := by decide +kernel
theorem d_Fi_cut_52 : decode k_Fi_cut.1 52 = .ok (.isub, 1) := by decide +kernel
theorem d_Fi_cut_53 : decode k_Fi_cut.1 53 = .ok (.istore_n 3, 1) := by decide +kernel
theorem d_Fi_cut_54 : decode k_Fi_cut.1 54 = .ok (.iload_n 3, 1) := by decide +kernel
theorem d_Fi_cut_55 : decode k_Fi_cut.1 55 = .ok (.ifCond .le 21, 3) := by decide +kernel
theorem d_Fi_cut_58 : decode k_Fi_cut.1 58 = .ok (.aload_n 0, 1) := by decide +kernel
theorem d_Fi_cut_59 : decode k_Fi_cut.1 59 = .ok (.getfield 10, 3) := by decide +kernel
theorem d_Fi_cut_62 : decode k_Fi_cut.1 62 = .ok (.iload_n 1, 1) := by decide +kernel
theorem d_Fi_cut_63 : decode k_Fi_cut.1 63 = .ok (.iload_n 2, 1) := by decide +kernel
theorem d_Fi_cut_64 : decode k_Fi_cut.1 64 = .ok (.invokevirtual 96, 3) := by decide +kernel
theorem d_Fi_cut_67 : decode k_Fi_cut.1 67 = .ok (.aload_n 0, 1) := by decide +kernel
theorem d_Fi_cut_68 : decode k_Fi_cut.1 68 = .ok (.getfield 19, 3) := by decide +kernel
theorem d_Fi_cut_71 : decode k_Fi_cut.1 71 = .ok (.iload_n 1, 1) := by decide +kernel
theorem d_Fi_cut_72 : decode k_Fi_cut.1 72 = .ok (.iconst 2, 1) := by decide +kernel
theorem d_Fi_cut_73 : decode k_Fi_cut.1 73 = .ok (.invokevirtual 71, 3) := by decide +kernel
theorem d_Fi_cut_76 : decode k_Fi_cut.1 76 = .ok (.iload_n 3, 1) := by decide +kernel
theorem d_Fi_cut_77 : decode k_Fi_cut.1 77 = .ok (.ireturn, 1) := by decide +kernel
theorem d_Fi_remove_0 : decode k_Fi_remove.1 0 = .ok (.iload_n 1, 1) := by decide +kernel
theorem d_Fi_remove_1 : decode k_Fi_remove.1 1 = .ok (.invokestatic 48, 3) := by decide +kernel
theorem d_Fi_remove_4 : decode k_Fi_remove.1 4 = .ok (.ifCond .ne 11, 3) := by decide +kernel
theorem d_Fi_remove_7 : decode k_Fi_remove.1 7 = .ok (.new 55, 3) := by decide +kernel
theorem d_Fi_remove_10 : decode k_Fi_remove.1 10 = .ok (.dup, 1) := by decide +kernel
theorem d_Fi_remove_11 : decode k_Fi_remove.1 11 = .ok (.invokespecial 57, 3) := by decide +kernel
theorem d_Fi_remove_14 : decode k_Fi_remove.1 14 = .ok (.athrow, 1) := by decide +kernel
theorem d_Fi_remove_15 : decode k_Fi_remove.1 15 = .ok (.aload_n 0, 1) := by decide +kernel
theorem d_Fi_remove_16 : decode k_Fi_remove.1 16 = .ok (.getfield 10, 3) := by decide +kernel
theorem d_Fi_remove_19 : decode k_Fi_remove.1 19 = .ok (.iload_n 1, 1) := by decide +kernel
theorem d_Fi_remove_20 : decode k_Fi_remove.1 20 = .ok (.invokevirtual 58, 3) := by decide +kernel
theorem d_Fi_remove_23 : decode k_Fi_remove.1 23 = .ok (.ifCond .ne 11, 3) := by decide +kernel
theorem d_Fi_remove_26 : decode k_Fi_remove.1 26 = .ok (.new 78, 3) := by decide +kernel
theorem d_Fi_remove_29 : decode k_Fi_remove.1 29 = .ok (.dup, 1) := by decide +kernel
theorem d_Fi_remove_30 : decode k_Fi_remove.1 30 = .ok (.invokespecial 80, 3) := by decide +kernel
theorem d_Fi_remove_33 : decode k_Fi_remove.1 33 = .ok (.athrow, 1) := by decide +kernel
theorem d_Fi_remove_34 : decode k_Fi_remove.1 34 = .ok (.iconst 0, 1) := by decide +kernel
theorem d_Fi_remove_35 : decode k_Fi_remove.1 35 = .ok (.istore_n 2, 1) := by decide +kernel
theorem d_Fi_remove_36 : decode k_Fi_remove.1 36 = .ok (.iconst 1, 1) := by decide +kernel
theorem d_Fi_remove_37 : decode k_Fi_remove.1 37 = .ok (.istore_n 3, 1) := by decide +kernel
theorem d_Fi_remove_38 : decode k_Fi_remove.1 38 = .ok (.iload_n 3, 1) := by decide +kernel
theorem d_Fi_remove_39 : decode k_Fi_remove.1 39 = .ok (.bipush 16, 2) := by decide +kernel
theorem d_Fi_remove_41 : decode k_Fi_remove.1 41 = .ok (.if_icmp .ge 34, 3) := by decide +kernel
theorem d_Fi_remove_44 : decode k_Fi_remove.1 44 = .ok (.iload_n 3, 1) := by decide +kernel
theorem d_Fi_remove_45 : decode k_Fi_remove.1 45 = .ok (.iload_n 1, 1) := by decide +kernel
theorem d_Fi_remove_46 : decode k_Fi_remove.1 46 = .ok (.if_icmp .eq 15, 3) := by decide +kernel
theorem d_Fi_remove_49 : decode k_Fi_remove.1 49 = .ok (.aload_n 0, 1) := by decide +kernel
theorem d_Fi_remove_50 : decode k_Fi_remove.1 50 = .ok (.getfield 10, 3) := by decide +kernel
theorem d_Fi_remove_53 : decode k_Fi_remove.1 53 = .ok (.iload_n 3, 1) := by decide +kernel
theorem d_Fi_remove_54 : decode k_Fi_remove.1 54 = .ok (.iload_n 1, 1) := by decide +kernel
theorem d_Fi_remove_55 : decode k_Fi_remove.1 55 = .ok (.invokevirtual 99, 3) := by decide +kernel
theorem d_Fi_remove_58 : decode k_Fi_remove.1 58 = .ok (.ifCond .eq 11, 3) := by decide +kernel
theorem d_Fi_remove_61 : decode k_Fi_remove.1 61 = .ok (.aload_n 0, 1) := by decide +kernel
theorem d_Fi_remove_62 : decode k_Fi_remove.1 62 = .ok (.iload_n 3, 1) := by decide +kernel
theorem d_Fi_remove_63 : decode k_Fi_remove.1 63 = .ok (.invokevirtual 103, 3) := by decide +kernel
theorem d_Fi_remove_66 : decode k_Fi_remove.1 66 = .ok (.iinc 2 1, 3) := by decide +kernel
theorem d_Fi_remove_69 : decode k_Fi_remove.1 69 = .ok (.iinc 3 1, 3) := by decide +kernel
theorem d_Fi_remove_72 : decode k_Fi_remove.1 72 = .ok (.goto (-34), 3) := by decide +kernel
theorem d_Fi_remove_75 : decode k_Fi_remove.1 75 = .ok (.iload_n 2, 1) := by decide +kernel
theorem d_Fi_remove_76 : decode k_Fi_remove.1 76 = .ok (.ireturn, 1) := by decide +kernel
theorem d_Fi_removeOne_0 : decode k_Fi_removeOne.1 0 = .ok (.aload_n 0, 1) := by decide +kernel
theorem d_Fi_removeOne_1 : decode k_Fi_removeOne.1 1 = .ok (.getfield 10, 3) := by decide +kernel
theorem d_Fi_removeOne_4 : decode k_Fi_removeOne.1 4 = .ok (.iload_n 1, 1) := by decide +kernel
theorem d_Fi_removeOne_5 : decode k_Fi_removeOne.1 5 = .ok (.invokevirtual 75, 3) := by decide +kernel
theorem d_Fi_removeOne_8 : decode k_Fi_removeOne.1 8 = .ok (.istore_n 2, 1) := by decide +kernel
theorem d_Fi_removeOne_9 : decode k_Fi_removeOne.1 9 = .ok (.aload_n 0, 1) := by decide +kernel
theorem d_Fi_removeOne_10 : decode k_Fi_removeOne.1 10 = .ok (.getfield 10, 3) := by decide +kernel
theorem d_Fi_removeOne_13 : decode k_Fi_removeOne.1 13 = .ok (.iload_n 1, 1) := by decide +kernel
theorem d_Fi_removeOne_14 : decode k_Fi_removeOne.1 14 = .ok (.invokevirtual 196, 3) := by decide +kernel
theorem d_Fi_removeOne_17 : decode k_Fi_removeOne.1 17 = .ok (.iload_n 2, 1) := by decide +kernel
theorem d_Fi_removeOne_18 : decode k_Fi_removeOne.1 18 = .ok (.ifCond .eq 12, 3) := by decide +kernel
theorem d_Fi_removeOne_21 : decode k_Fi_removeOne.1 21 = .ok (.aload_n 0, 1) := by decide +kernel
theorem d_Fi_removeOne_22 : decode k_Fi_removeOne.1 22 = .ok (.getfield 19, 3) := by decide +kernel
theorem d_Fi_removeOne_25 : decode k_Fi_removeOne.1 25 = .ok (.iload_n 1, 1) := by decide +kernel
theorem d_Fi_removeOne_26 : decode k_Fi_removeOne.1 26 = .ok (.iconst 3, 1) := by decide +kernel
theorem d_Fi_removeOne_27 : decode k_Fi_removeOne.1 27 = .ok (.invokevirtual 71, 3) := by decide +kernel
theorem d_Fi_removeOne_30 : decode k_Fi_removeOne.1 30 = .ok (.return_, 1) := by decide +kernel
theorem d_Fi_move_0 : decode k_Fi_move.1 0 = .ok (.iload_n 1, 1) := by decide +kernel
theorem d_Fi_move_1 : decode k_Fi_move.1 1 = .ok (.invokestatic 48, 3) := by decide +kernel
theorem d_Fi_move_4 : decode k_Fi_move.1 4 = .ok (.ifCond .eq 10, 3) := by decide +kernel
theorem d_Fi_move_7 : decode k_Fi_move.1 7 = .ok (.iload_n 2, 1) := by decide +kernel
theorem d_Fi_move_8 : decode k_Fi_move.1 8 = .ok (.invokestatic 52, 3) := by decide +kernel
theorem d_Fi_move_11 : decode k_Fi_move.1 11 = .ok (.ifCond .ne 11, 3) := by decide +kernel
theorem d_Fi_move_14 : decode k_Fi_move.1 14 = .ok (.new 55, 3) := by decide +kernel
theorem d_Fi_move_17 : decode k_Fi_move.1 17 = .ok (.dup, 1) := by decide +kernel
theorem d_Fi_move_18 : decode k_Fi_move.1 18 = .ok (.invokespecial 57, 3) := by decide +kernel
theorem d_Fi_move_21 : decode k_Fi_move.1 21 = .ok (.athrow, 1) := by decide +kernel
theorem d_Fi_move_22 : decode k_Fi_move.1 22 = .ok (.aload_n 0, 1) := by decide +kernel
theorem d_Fi_move_23 : decode k_Fi_move.1 23 = .ok (.getfield 10, 3) := by decide +kernel
theorem d_Fi_move_26 : decode k_Fi_move.1 26 = .ok (.iload_n 1, 1) := by decide +kernel
theorem d_Fi_move_27 : decode k_Fi_move.1 27 = .ok (.invokevirtual 58, 3) := by decide +kernel
theorem d_Fi_move_30 : decode k_Fi_move.1 30 = .ok (.ifCond .eq 14, 3) := by decide +kernel
theorem d_Fi_move_33 : decode k_Fi_move.1 33 = .ok (.aload_n 0, 1) := by decide +kernel
theorem d_Fi_move_34 : decode k_Fi_move.1 34 = .ok (.getfield 10, 3) := by decide +kernel
theorem d_Fi_move_37 : decode k_Fi_move.1 37 = .ok (.iload_n 2, 1) := by decide +kernel
theorem d_Fi_move_38 : decode k_Fi_move.1 38 = .ok (.invokevirtual 61, 3) := by decide +kernel
theorem d_Fi_move_41 : decode k_Fi_move.1 41 = .ok (.ifCond .ne 11, 3) := by decide +kernel
theorem d_Fi_move_44 : decode k_Fi_move.1 44 = .ok (.new 78, 3) := by decide +kernel
theorem d_Fi_move_47 : decode k_Fi_move.1 47 = .ok (.dup, 1) := by decide +kernel
theorem d_Fi_move_48 : decode k_Fi_move.1 48 = .ok (.invokespecial 80, 3) := by decide +kernel
theorem d_Fi_move_51 : decode k_Fi_move.1 51 = .ok (.athrow, 1) := by decide +kernel
theorem d_Fi_move_52 : decode k_Fi_move.1 52 = .ok (.iload_n 2, 1) := by decide +kernel
theorem d_Fi_move_53 : decode k_Fi_move.1 53 = .ok (.iload_n 1, 1) := by decide +kernel
theorem d_Fi_move_54 : decode k_Fi_move.1 54 = .ok (.if_icmp .eq 15, 3) := by decide +kernel
theorem d_Fi_move_57 : decode k_Fi_move.1 57 = .ok (.aload_n 0, 1) := by decide +kernel
theorem d_Fi_move_58 : decode k_Fi_move.1 58 = .ok (.getfield 10, 3) := by decide +kernel
theorem d_Fi_move_61 : decode k_Fi_move.1 61 = .ok (.iload_n 2, 1) := by decide +kernel
theorem d_Fi_move_62 : decode k_Fi_move.1 62 = .ok (.iload_n 1, 1) := by decide +kernel
theorem d_Fi_move_63 : decode k_Fi_move.1 63 = .ok (.invokevirtual 99, 3) := by decide +kernel
theorem d_Fi_move_66 : decode k_Fi_move.1 66 = .ok (.ifCond .eq 11, 3) := by decide +kernel
theorem d_Fi_move_69 : decode k_Fi_move.1 69 = .ok (.new 64, 3) := by decide +kernel
theorem d_Fi_move_72 : decode k_Fi_move.1 72 = .ok (.dup, 1) := by decide +kernel
theorem d_Fi_move_73 : decode k_Fi_move.1 73 = .ok (.invokespecial 66, 3) := by decide +kernel
theorem d_Fi_move_76 : decode k_Fi_move.1 76 = .ok (.athrow, 1) := by decide +kernel
theorem d_Fi_move_77 : decode k_Fi_move.1 77 = .ok (.aload_n 0, 1) := by decide +kernel
theorem d_Fi_move_78 : decode k_Fi_move.1 78 = .ok (.getfield 10, 3) := by decide +kernel
theorem d_Fi_move_81 : decode k_Fi_move.1 81 = .ok (.iload_n 1, 1) := by decide +kernel
theorem d_Fi_move_82 : decode k_Fi_move.1 82 = .ok (.invokevirtual 107, 3) := by decide +kernel
theorem d_Fi_move_85 : decode k_Fi_move.1 85 = .ok (.iload_n 2, 1) := by decide +kernel
theorem d_Fi_move_86 : decode k_Fi_move.1 86 = .ok (.if_icmp .ne 5, 3) := by decide +kernel
theorem d_Fi_move_89 : decode k_Fi_move.1 89 = .ok (.iconst 0, 1) := by decide +kernel
theorem d_Fi_move_90 : decode k_Fi_move.1 90 = .ok (.ireturn, 1) := by decide +kernel
theorem d_Fi_move_91 : decode k_Fi_move.1 91 = .ok (.aload_n 0, 1) := by decide +kernel
theorem d_Fi_move_92 : decode k_Fi_move.1 92 = .ok (.getfield 10, 3) := by decide +kernel
theorem d_Fi_move_95 : decode k_Fi_move.1 95 = .ok (.iload_n 1, 1) := by decide +kernel
theorem d_Fi_move_96 : decode k_Fi_move.1 96 = .ok (.iload_n 2, 1) := by decide +kernel
theorem d_Fi_move_97 : decode k_Fi_move.1 97 = .ok (.invokevirtual 110, 3) := by decide +kernel
theorem d_Fi_move_100 : decode k_Fi_move.1 100 = .ok (.iconst 1, 1) := by decide +kernel
theorem d_Fi_move_101 : decode k_Fi_move.1 101 = .ok (.ireturn, 1) := by decide +kernel
theorem d_Fi_work_0 : decode k_Fi_work.1 0 = .ok (.iload_n 1, 1) := by decide +kernel
theorem d_Fi_work_1 : decode k_Fi_work.1 1 = .ok (.iconst 1, 1) := by decide +kernel
theorem d_Fi_work_2 : decode k_Fi_work.1 2 = .ok (.if_icmp .lt 9, 3) := by decide +kernel
theorem d_Fi_work_5 : decode k_Fi_work.1 5 = .ok (.iload_n 1, 1) := by decide +kernel
theorem d_Fi_work_6 : decode k_Fi_work.1 6 = .ok (.bipush 8, 2) := by decide +kernel
theorem d_Fi_work_8 : decode k_Fi_work.1 8 = .ok (.if_icmp .le 11, 3) := by decide +kernel
theorem d_Fi_work_11 : decode k_Fi_work.1 11 = .ok (.new 55, 3) := by decide +kernel
theorem d_Fi_work_14 : decode k_Fi_work.1 14 = .ok (.dup, 1) := by decide +kernel
theorem d_Fi_work_15 : decode k_Fi_work.1 15 = .ok (.invokespecial 57, 3) := by decide +kernel
theorem d_Fi_work_18 : decode k_Fi_work.1 18 = .ok (.athrow, 1) := by decide +kernel
theorem d_Fi_work_19 : decode k_Fi_work.1 19 = .ok (.aload_n 0, 1) := by decide +kernel
theorem d_Fi_work_20 : decode k_Fi_work.1 20 = .ok (.getfield 19, 3) := by decide +kernel
theorem d_Fi_work_23 : decode k_Fi_work.1 23 = .ok (.invokevirtual 113, 3) := by decide +kernel
theorem d_Fi_work_26 : decode k_Fi_work.1 26 = .ok (.ifCond .eq 11, 3) := by decide +kernel
theorem d_Fi_work_29 : decode k_Fi_work.1 29 = .ok (.new 64, 3) := by decide +kernel
theorem d_Fi_work_32 : decode k_Fi_work.1 32 = .ok (.dup, 1) := by decide +kernel
theorem d_Fi_work_33 : decode k_Fi_work.1 33 = .ok (.invokespecial 66, 3) := by decide +kernel
theorem d_Fi_work_36 : decode k_Fi_work.1 36 = .ok (.athrow, 1) := by decide +kernel
theorem d_Fi_work_37 : decode k_Fi_work.1 37 = .ok (.iload_n 1, 1) := by decide +kernel
theorem d_Fi_work_38 : decode k_Fi_work.1 38 = .ok (.aload_n 0, 1) := by decide +kernel
theorem d_Fi_work_39 : decode k_Fi_work.1 39 = .ok (.getfield 19, 3) := by decide +kernel
theorem d_Fi_work_42 : decode k_Fi_work.1 42 = .ok (.invokevirtual 117, 3) := by decide +kernel
theorem d_Fi_work_45 : decode k_Fi_work.1 45 = .ok (.invokestatic 121, 3) := by decide +kernel
theorem d_Fi_work_48 : decode k_Fi_work.1 48 = .ok (.istore_n 2, 1) := by decide +kernel
theorem d_Fi_work_49 : decode k_Fi_work.1 49 = .ok (.iconst 0, 1) := by decide +kernel
theorem d_Fi_work_50 : decode k_Fi_work.1 50 = .ok (.istore_n 3, 1) := by decide +kernel
theorem d_Fi_work_51 : decode k_Fi_work.1 51 = .ok (.iload_n 3, 1) := by decide +kernel
theorem d_Fi_work_52 : decode k_Fi_work.1 52 = .ok (.iload_n 2, 1) := by decide +kernel
theorem d_Fi_work_53 : decode k_Fi_work.1 53 = .ok (.if_icmp .ge 37, 3) := by decide +kernel
theorem d_Fi_work_56 : decode k_Fi_work.1 56 = .ok (.aload_n 0, 1) := by decide +kernel
theorem d_Fi_work_57 : decode k_Fi_work.1 57 = .ok (.aload_n 0, 1) := by decide +kernel
theorem d_Fi_work_58 : decode k_Fi_work.1 58 = .ok (.getfield 19, 3) := by decide +kernel
theorem d_Fi_work_61 : decode k_Fi_work.1 61 = .ok (.iconst 0, 1) := by decide +kernel
theorem d_Fi_work_62 : decode k_Fi_work.1 62 = .ok (.invokevirtual 127, 3) := by decide +kernel
theorem d_Fi_work_65 : decode k_Fi_work.1 65 = .ok (.aload_n 0, 1) := by decide +kernel
theorem d_Fi_work_66 : decode k_Fi_work.1 66 = .ok (.getfield 19, 3) := by decide +kernel
theorem d_Fi_work_69 : decode k_Fi_work.1 69 = .ok (.iconst 0, 1) := by decide +kernel
theorem d_Fi_work_70 : decode k_Fi_work.1 70 = .ok (.invokevirtual 130, 3) := by decide +kernel
theorem d_Fi_work_73 : decode k_Fi_work.1 73 = .ok (.invokevirtual 133, 3) := by decide +kernel
theorem d_Fi_work_76 : decode k_Fi_work.1 76 = .ok (.aload_n 0, 1) := by decide +kernel
theorem d_Fi_work_77 : decode k_Fi_work.1 77 = .ok (.getfield 19, 3) := by decide +kernel
theorem d_Fi_work_80 : decode k_Fi_work.1 80 = .ok (.iconst 0, 1) := by decide +kernel
theorem d_Fi_work_81 : decode k_Fi_work.1 81 = .ok (.invokevirtual 136, 3) := by decide +kernel
theorem d_Fi_work_84 : decode k_Fi_work.1 84 = .ok (.iinc 3 1, 3) := by decide +kernel
theorem d_Fi_work_87 : decode k_Fi_work.1 87 = .ok (.goto (-36), 3) := by decide +kernel
theorem d_Fi_work_90 : decode k_Fi_work.1 90 = .ok (.iload_n 2, 1) := by decide +kernel
theorem d_Fi_work_91 : decode k_Fi_work.1 91 = .ok (.ireturn, 1) := by decide +kernel
theorem d_Fi_follow_0 : decode k_Fi_follow.1 0 = .ok (.iload_n 1, 1) := by decide +kernel
theorem d_Fi_follow_1 : decode k_Fi_follow.1 1 = .ok (.iconst 3, 1) := by decide +kernel
theorem d_Fi_follow_2 : decode k_Fi_follow.1 2 = .ok (.if_icmp .ne 14, 3) := by decide +kernel
theorem d_Fi_follow_5 : decode k_Fi_follow.1 5 = .ok (.aload_n 0, 1) := by decide +kernel
theorem d_Fi_follow_6 : decode k_Fi_follow.1 6 = .ok (.getfield 26, 3) := by decide +kernel
theorem d_Fi_follow_9 : decode k_Fi_follow.1 9 = .ok (.iload_n 2, 1) := by decide +kernel
theorem d_Fi_follow_10 : decode k_Fi_follow.1 10 = .ok (.invokevirtual 142, 3) := by decide +kernel
theorem d_Fi_follow_13 : decode k_Fi_follow.1 13 = .ok (.goto 8, 3) := by decide +kernel
theorem d_Fi_follow_16 : decode k_Fi_follow.1 16 = .ok (.aload_n 0, 1) := by decide +kernel
theorem d_Fi_follow_17 : decode k_Fi_follow.1 17 = .ok (.iload_n 2, 1) := by decide +kernel
theorem d_Fi_follow_18 : decode k_Fi_follow.1 18 = .ok (.invokevirtual 139, 3) := by decide +kernel
theorem d_Fi_follow_21 : decode k_Fi_follow.1 21 = .ok (.return_, 1) := by decide +kernel
theorem d_Fi_type_0 : decode k_Fi_type.1 0 = .ok (.iload_n 1, 1) := by decide +kernel
theorem d_Fi_type_1 : decode k_Fi_type.1 1 = .ok (.invokestatic 148, 3) := by decide +kernel
theorem d_Fi_type_4 : decode k_Fi_type.1 4 = .ok (.ifCond .ne 11, 3) := by decide +kernel
theorem d_Fi_type_7 : decode k_Fi_type.1 7 = .ok (.new 55, 3) := by decide +kernel
theorem d_Fi_type_10 : decode k_Fi_type.1 10 = .ok (.dup, 1) := by decide +kernel
theorem d_Fi_type_11 : decode k_Fi_type.1 11 = .ok (.invokespecial 57, 3) := by decide +kernel
theorem d_Fi_type_14 : decode k_Fi_type.1 14 = .ok (.athrow, 1) := by decide +kernel
theorem d_Fi_type_15 : decode k_Fi_type.1 15 = .ok (.aload_n 0, 1) := by decide +kernel
theorem d_Fi_type_16 : decode k_Fi_type.1 16 = .ok (.getfield 33, 3) := by decide +kernel
theorem d_Fi_type_19 : decode k_Fi_type.1 19 = .ok (.invokevirtual 151, 3) := by decide +kernel
theorem d_Fi_type_22 : decode k_Fi_type.1 22 = .ok (.bipush 40, 2) := by decide +kernel
theorem d_Fi_type_24 : decode k_Fi_type.1 24 = .ok (.if_icmp .lt 11, 3) := by decide +kernel
theorem d_Fi_type_27 : decode k_Fi_type.1 27 = .ok (.new 64, 3) := by decide +kernel
theorem d_Fi_type_30 : decode k_Fi_type.1 30 = .ok (.dup, 1) := by decide +kernel
theorem d_Fi_type_31 : decode k_Fi_type.1 31 = .ok (.invokespecial 66, 3) := by decide +kernel
theorem d_Fi_type_34 : decode k_Fi_type.1 34 = .ok (.athrow, 1) := by decide +kernel
theorem d_Fi_type_35 : decode k_Fi_type.1 35 = .ok (.aload_n 0, 1) := by decide +kernel
theorem d_Fi_type_36 : decode k_Fi_type.1 36 = .ok (.getfield 33, 3) := by decide +kernel
theorem d_Fi_type_39 : decode k_Fi_type.1 39 = .ok (.iload_n 1, 1) := by decide +kernel
theorem d_Fi_type_40 : decode k_Fi_type.1 40 = .ok (.invokevirtual 154, 3) := by decide +kernel
theorem d_Fi_type_43 : decode k_Fi_type.1 43 = .ok (.aload_n 0, 1) := by decide +kernel
theorem d_Fi_type_44 : decode k_Fi_type.1 44 = .ok (.getfield 33, 3) := by decide +kernel
theorem d_Fi_type_47 : decode k_Fi_type.1 47 = .ok (.invokevirtual 151, 3) := by decide +kernel
theorem d_Fi_type_50 : decode k_Fi_type.1 50 = .ok (.ireturn, 1) := by decide +kernel
theorem d_Fi_search_0 : decode k_Fi_search.1 0 = .ok (.aload_n 0, 1) := by decide +kernel
theorem d_Fi_search_1 : decode k_Fi_search.1 1 = .ok (.getfield 10, 3) := by decide +kernel
theorem d_Fi_search_4 : decode k_Fi_search.1 4 = .ok (.iload_n 1, 1) := by decide +kernel
theorem d_Fi_search_5 : decode k_Fi_search.1 5 = .ok (.invokevirtual 61, 3) := by decide +kernel
theorem d_Fi_search_8 : decode k_Fi_search.1 8 = .ok (.ifCond .ne 11, 3) := by decide +kernel
theorem d_Fi_search_11 : decode k_Fi_search.1 11 = .ok (.new 78, 3) := by decide +kernel
theorem d_Fi_search_14 : decode k_Fi_search.1 14 = .ok (.dup, 1) := by decide +kernel
theorem d_Fi_search_15 : decode k_Fi_search.1 15 = .ok (.invokespecial 80, 3) := by decide +kernel
theorem d_Fi_search_18 : decode k_Fi_search.1 18 = .ok (.athrow, 1) := by decide +kernel
theorem d_Fi_search_19 : decode k_Fi_search.1 19 = .ok (.aload_n 0, 1) := by decide +kernel
theorem d_Fi_search_20 : decode k_Fi_search.1 20 = .ok (.getfield 40, 3) := by decide +kernel
theorem d_Fi_search_23 : decode k_Fi_search.1 23 = .ok (.invokevirtual 156, 3) := by decide +kernel
theorem d_Fi_search_26 : decode k_Fi_search.1 26 = .ok (.aload_n 0, 1) := by decide +kernel
theorem d_Fi_search_27 : decode k_Fi_search.1 27 = .ok (.aload_n 0, 1) := by decide +kernel
theorem d_Fi_search_28 : decode k_Fi_search.1 28 = .ok (.getfield 33, 3) := by decide +kernel
theorem d_Fi_search_31 : decode k_Fi_search.1 31 = .ok (.invokevirtual 159, 3) := by decide +kernel
theorem d_Fi_search_34 : decode k_Fi_search.1 34 = .ok (.putfield 44, 3) := by decide +kernel
theorem d_Fi_search_37 : decode k_Fi_search.1 37 = .ok (.aload_n 0, 1) := by decide +kernel
theorem d_Fi_search_38 : decode k_Fi_search.1 38 = .ok (.getfield 33, 3) := by decide +kernel
theorem d_Fi_search_41 : decode k_Fi_search.1 41 = .ok (.invokevirtual 162, 3) := by decide +kernel
theorem d_Fi_search_44 : decode k_Fi_search.1 44 = .ok (.aload_n 0, 1) := by decide +kernel
theorem d_Fi_search_45 : decode k_Fi_search.1 45 = .ok (.getfield 44, 3) := by decide +kernel
theorem d_Fi_search_48 : decode k_Fi_search.1 48 = .ok (.iconst (-1), 1) := by decide +kernel
theorem d_Fi_search_49 : decode k_Fi_search.1 49 = .ok (.if_icmp .eq 11, 3) := by decide +kernel
theorem d_Fi_search_52 : decode k_Fi_search.1 52 = .ok (.new 55, 3) := by decide +kernel
theorem d_Fi_search_55 : decode k_Fi_search.1 55 = .ok (.dup, 1) := by decide +kernel
theorem d_Fi_search_56 : decode k_Fi_search.1 56 = .ok (.invokespecial 57, 3) := by decide +kernel
theorem d_Fi_search_59 : decode k_Fi_search.1 59 = .ok (.athrow, 1) := by decide +kernel
theorem d_Fi_search_60 : decode k_Fi_search.1 60 = .ok (.iconst 1, 1) := by decide +kernel
theorem d_Fi_search_61 : decode k_Fi_search.1 61 = .ok (.istore_n 2, 1) := by decide +kernel
theorem d_Fi_search_62 : decode k_Fi_search.1 62 = .ok (.iload_n 2, 1) := by decide +kernel
theorem d_Fi_search_63 : decode k_Fi_search.1 63 = .ok (.bipush 16, 2) := by decide +kernel
theorem d_Fi_search_65 : decode k_Fi_search.1 65 = .ok (.if_icmp .ge 34, 3) := by decide +kernel
theorem d_Fi_search_68 : decode k_Fi_search.1 68 = .ok (.aload_n 0, 1) := by decide +kernel
theorem d_Fi_search_69 : decode k_Fi_search.1 69 = .ok (.getfield 26, 3) := by decide +kernel
theorem d_Fi_search_72 : decode k_Fi_search.1 72 = .ok (.iload_n 2, 1) := by decide +kernel
theorem d_Fi_search_73 : decode k_Fi_search.1 73 = .ok (.invokevirtual 165, 3) := by decide +kernel
theorem d_Fi_search_76 : decode k_Fi_search.1 76 = .ok (.ifCond .eq 17, 3) := by decide +kernel
theorem d_Fi_search_79 : decode k_Fi_search.1 79 = .ok (.aload_n 0, 1) := by decide +kernel
theorem d_Fi_search_80 : decode k_Fi_search.1 80 = .ok (.iload_n 2, 1) := by decide +kernel
theorem d_Fi_search_81 : decode k_Fi_search.1 81 = .ok (.iload_n 1, 1) := by decide +kernel
theorem d_Fi_search_82 : decode k_Fi_search.1 82 = .ok (.invokevirtual 168, 3) := by decide +kernel
theorem d_Fi_search_85 : decode k_Fi_search.1 85 = .ok (.ifCond .eq 8, 3) := by decide +kernel
theorem d_Fi_search_88 : decode k_Fi_search.1 88 = .ok (.aload_n 0, 1) := by decide +kernel
theorem d_Fi_search_89 : decode k_Fi_search.1 89 = .ok (.iload_n 2, 1) := by decide +kernel
theorem d_Fi_search_90 : decode k_Fi_search.1 90 = .ok (.invokevirtual 171, 3) := by decide +kernel
theorem d_Fi_search_93 : decode k_Fi_search.1 93 = .ok (.iinc 2 1, 3) := by decide +kernel
theorem d_Fi_search_96 : decode k_Fi_search.1 96 = .ok (.goto (-34), 3) := by decide +kernel
theorem d_Fi_search_99 : decode k_Fi_search.1 99 = .ok (.aload_n 0, 1) := by decide +kernel
theorem d_Fi_search_100 : decode k_Fi_search.1 100 = .ok (.getfield 40, 3) := by decide +kernel
theorem d_Fi_search_103 : decode k_Fi_search.1 103 = .ok (.invokevirtual 174, 3) := by decide +kernel
theorem d_Fi_search_106 : decode k_Fi_search.1 106 = .ok (.ireturn, 1) := by decide +kernel
theorem d_Fi_isSearched_0 : decode k_Fi_isSearched.1 0 = .ok (.iload_n 2, 1) := by decide +kernel
theorem d_Fi_isSearched_1 : decode k_Fi_isSearched.1 1 = .ok (.ifCond .eq 15, 3) := by decide +kernel
theorem d_Fi_isSearched_4 : decode k_Fi_isSearched.1 4 = .ok (.aload_n 0, 1) := by decide +kernel
theorem d_Fi_isSearched_5 : decode k_Fi_isSearched.1 5 = .ok (.getfield 10, 3) := by decide +kernel
theorem d_Fi_isSearched_8 : decode k_Fi_isSearched.1 8 = .ok (.iload_n 1, 1) := by decide +kernel
theorem d_Fi_isSearched_9 : decode k_Fi_isSearched.1 9 = .ok (.iload_n 2, 1) := by decide +kernel
theorem d_Fi_isSearched_10 : decode k_Fi_isSearched.1 10 = .ok (.invokevirtual 99, 3) := by decide +kernel
theorem d_Fi_isSearched_13 : decode k_Fi_isSearched.1 13 = .ok (.ifCond .eq 7, 3) := by decide +kernel
theorem d_Fi_isSearched_16 : decode k_Fi_isSearched.1 16 = .ok (.iconst 1, 1) := by decide +kernel
theorem d_Fi_isSearched_17 : decode k_Fi_isSearched.1 17 = .ok (.goto 4, 3) := by decide +kernel
theorem d_Fi_isSearched_20 : decode k_Fi_isSearched.1 20 = .ok (.iconst 0, 1) := by decide +kernel
theorem d_Fi_isSearched_21 : decode k_Fi_isSearched.1 21 = .ok (.ireturn, 1) := by decide +kernel
theorem d_Fi_rank_0 : decode k_Fi_rank.1 0 = .ok (.aload_n 0, 1) := by decide +kernel
theorem d_Fi_rank_1 : decode k_Fi_rank.1 1 = .ok (.getfield 33, 3) := by decide +kernel
theorem d_Fi_rank_4 : decode k_Fi_rank.1 4 = .ok (.aload_n 0, 1) := by decide +kernel
theorem d_Fi_rank_5 : decode k_Fi_rank.1 5 = .ok (.getfield 26, 3) := by decide +kernel
theorem d_Fi_rank_8 : decode k_Fi_rank.1 8 = .ok (.iload_n 1, 1) := by decide +kernel
theorem d_Fi_rank_9 : decode k_Fi_rank.1 9 = .ok (.invokevirtual 179, 3) := by decide +kernel
theorem d_Fi_rank_12 : decode k_Fi_rank.1 12 = .ok (.invokevirtual 205, 3) := by decide +kernel
theorem d_Fi_rank_15 : decode k_Fi_rank.1 15 = .ok (.istore_n 2, 1) := by decide +kernel
theorem d_Fi_rank_16 : decode k_Fi_rank.1 16 = .ok (.iload_n 2, 1) := by decide +kernel
theorem d_Fi_rank_17 : decode k_Fi_rank.1 17 = .ok (.iconst (-1), 1) := by decide +kernel
theorem d_Fi_rank_18 : decode k_Fi_rank.1 18 = .ok (.if_icmp .eq 12, 3) := by decide +kernel
theorem d_Fi_rank_21 : decode k_Fi_rank.1 21 = .ok (.aload_n 0, 1) := by decide +kernel
theorem d_Fi_rank_22 : decode k_Fi_rank.1 22 = .ok (.getfield 40, 3) := by decide +kernel
theorem d_Fi_rank_25 : decode k_Fi_rank.1 25 = .ok (.iload_n 1, 1) := by decide +kernel
theorem d_Fi_rank_26 : decode k_Fi_rank.1 26 = .ok (.iload_n 2, 1) := by decide +kernel
theorem d_Fi_rank_27 : decode k_Fi_rank.1 27 = .ok (.invokevirtual 209, 3) := by decide +kernel
theorem d_Fi_rank_30 : decode k_Fi_rank.1 30 = .ok (.return_, 1) := by decide +kernel
theorem d_Fi_result_0 : decode k_Fi_result.1 0 = .ok (.iload_n 1, 1) := by decide +kernel
theorem d_Fi_result_1 : decode k_Fi_result.1 1 = .ok (.ifCond .lt 14, 3) := by decide +kernel
theorem d_Fi_result_4 : decode k_Fi_result.1 4 = .ok (.iload_n 1, 1) := by decide +kernel
theorem d_Fi_result_5 : decode k_Fi_result.1 5 = .ok (.aload_n 0, 1) := by decide +kernel
theorem d_Fi_result_6 : decode k_Fi_result.1 6 = .ok (.getfield 40, 3) := by decide +kernel
theorem d_Fi_result_9 : decode k_Fi_result.1 9 = .ok (.invokevirtual 174, 3) := by decide +kernel
theorem d_Fi_result_12 : decode k_Fi_result.1 12 = .ok (.if_icmp .lt 11, 3) := by decide +kernel
theorem d_Fi_result_15 : decode k_Fi_result.1 15 = .ok (.new 78, 3) := by decide +kernel
theorem d_Fi_result_18 : decode k_Fi_result.1 18 = .ok (.dup, 1) := by decide +kernel
theorem d_Fi_result_19 : decode k_Fi_result.1 19 = .ok (.invokespecial 80, 3) := by decide +kernel
theorem d_Fi_result_22 : decode k_Fi_result.1 22 = .ok (.athrow, 1) := by decide +kernel
theorem d_Fi_result_23 : decode k_Fi_result.1 23 = .ok (.iload_n 2, 1) := by decide +kernel
theorem d_Fi_result_24 : decode k_Fi_result.1 24 = .ok (.ifCond .eq 16, 3) := by decide +kernel
theorem d_Fi_result_27 : decode k_Fi_result.1 27 = .ok (.iload_n 2, 1) := by decide +kernel
theorem d_Fi_result_28 : decode k_Fi_result.1 28 = .ok (.iconst 1, 1) := by decide +kernel
theorem d_Fi_result_29 : decode k_Fi_result.1 29 = .ok (.if_icmp .eq 11, 3) := by decide +kernel
theorem d_Fi_result_32 : decode k_Fi_result.1 32 = .ok (.new 55, 3) := by decide +kernel
theorem d_Fi_result_35 : decode k_Fi_result.1 35 = .ok (.dup, 1) := by decide +kernel
theorem d_Fi_result_36 : decode k_Fi_result.1 36 = .ok (.invokespecial 57, 3) := by decide +kernel
theorem d_Fi_result_39 : decode k_Fi_result.1 39 = .ok (.athrow, 1) := by decide +kernel
theorem d_Fi_result_40 : decode k_Fi_result.1 40 = .ok (.iload_n 2, 1) := by decide +kernel
theorem d_Fi_result_41 : decode k_Fi_result.1 41 = .ok (.ifCond .ne 14, 3) := by decide +kernel
theorem d_Fi_result_44 : decode k_Fi_result.1 44 = .ok (.aload_n 0, 1) := by decide +kernel
theorem d_Fi_result_45 : decode k_Fi_result.1 45 = .ok (.getfield 40, 3) := by decide +kernel
theorem d_Fi_result_48 : decode k_Fi_result.1 48 = .ok (.iload_n 1, 1) := by decide +kernel
theorem d_Fi_result_49 : decode k_Fi_result.1 49 = .ok (.invokevirtual 175, 3) := by decide +kernel
theorem d_Fi_result_52 : decode k_Fi_result.1 52 = .ok (.goto 11, 3) := by decide +kernel
theorem d_Fi_result_55 : decode k_Fi_result.1 55 = .ok (.aload_n 0, 1) := by decide +kernel
theorem d_Fi_result_56 : decode k_Fi_result.1 56 = .ok (.getfield 40, 3) := by decide +kernel
theorem d_Fi_result_59 : decode k_Fi_result.1 59 = .ok (.iload_n 1, 1) := by decide +kernel
theorem d_Fi_result_60 : decode k_Fi_result.1 60 = .ok (.invokevirtual 176, 3) := by decide +kernel
theorem d_Fi_result_63 : decode k_Fi_result.1 63 = .ok (.ireturn, 1) := by decide +kernel
theorem d_Fi_words_0 : decode k_Fi_words.1 0 = .ok (.aload_n 0, 1) := by decide +kernel
theorem d_Fi_words_1 : decode k_Fi_words.1 1 = .ok (.getfield 26, 3) := by decide +kernel
theorem d_Fi_words_4 : decode k_Fi_words.1 4 = .ok (.iload_n 1, 1) := by decide +kernel
theorem d_Fi_words_5 : decode k_Fi_words.1 5 = .ok (.invokevirtual 165, 3) := by decide +kernel
theorem d_Fi_words_8 : decode k_Fi_words.1 8 = .ok (.ifCond .ne 11, 3) := by decide +kernel
theorem d_Fi_words_11 : decode k_Fi_words.1 11 = .ok (.new 78, 3) := by decide +kernel
theorem d_Fi_words_14 : decode k_Fi_words.1 14 = .ok (.dup, 1) := by decide +kernel
theorem d_Fi_words_15 : decode k_Fi_words.1 15 = .ok (.invokespecial 80, 3) := by decide +kernel
theorem d_Fi_words_18 : decode k_Fi_words.1 18 = .ok (.athrow, 1) := by decide +kernel
theorem d_Fi_words_19 : decode k_Fi_words.1 19 = .ok (.aload_n 0, 1) := by decide +kernel
theorem d_Fi_words_20 : decode k_Fi_words.1 20 = .ok (.getfield 26, 3) := by decide +kernel
theorem d_Fi_words_23 : decode k_Fi_words.1 23 = .ok (.iload_n 1, 1) := by decide +kernel
theorem d_Fi_words_24 : decode k_Fi_words.1 24 = .ok (.invokevirtual 179, 3) := by decide +kernel
theorem d_Fi_words_27 : decode k_Fi_words.1 27 = .ok (.invokevirtual 183, 3) := by decide +kernel
theorem d_Fi_words_30 : decode k_Fi_words.1 30 = .ok (.ireturn, 1) := by decide +kernel
theorem d_Fi_event_0 : decode k_Fi_event.1 0 = .ok (.iload_n 1, 1) := by decide +kernel
theorem d_Fi_event_1 : decode k_Fi_event.1 1 = .ok (.ifCond .lt 14, 3) := by decide +kernel
theorem d_Fi_event_4 : decode k_Fi_event.1 4 = .ok (.iload_n 1, 1) := by decide +kernel
theorem d_Fi_event_5 : decode k_Fi_event.1 5 = .ok (.aload_n 0, 1) := by decide +kernel
theorem d_Fi_event_6 : decode k_Fi_event.1 6 = .ok (.getfield 19, 3) := by decide +kernel
theorem d_Fi_event_9 : decode k_Fi_event.1 9 = .ok (.invokevirtual 117, 3) := by decide +kernel
theorem d_Fi_event_12 : decode k_Fi_event.1 12 = .ok (.if_icmp .lt 11, 3) := by decide +kernel
theorem d_Fi_event_15 : decode k_Fi_event.1 15 = .ok (.new 78, 3) := by decide +kernel
theorem d_Fi_event_18 : decode k_Fi_event.1 18 = .ok (.dup, 1) := by decide +kernel
theorem d_Fi_event_19 : decode k_Fi_event.1 19 = .ok (.invokespecial 80, 3) := by decide +kernel
theorem d_Fi_event_22 : decode k_Fi_event.1 22 = .ok (.athrow, 1) := by decide +kernel
theorem d_Fi_event_23 : decode k_Fi_event.1 23 = .ok (.bipush 16, 2) := by decide +kernel
theorem d_Fi_event_25 : decode k_Fi_event.1 25 = .ok (.aload_n 0, 1) := by decide +kernel
theorem d_Fi_event_26 : decode k_Fi_event.1 26 = .ok (.getfield 19, 3) := by decide +kernel
theorem d_Fi_event_29 : decode k_Fi_event.1 29 = .ok (.iload_n 1, 1) := by decide +kernel
theorem d_Fi_event_30 : decode k_Fi_event.1 30 = .ok (.invokevirtual 127, 3) := by decide +kernel
theorem d_Fi_event_33 : decode k_Fi_event.1 33 = .ok (.imul, 1) := by decide +kernel
theorem d_Fi_event_34 : decode k_Fi_event.1 34 = .ok (.aload_n 0, 1) := by decide +kernel
theorem d_Fi_event_35 : decode k_Fi_event.1 35 = .ok (.getfield 19, 3) := by decide +kernel
theorem d_Fi_event_38 : decode k_Fi_event.1 38 = .ok (.iload_n 1, 1) := by decide +kernel
theorem d_Fi_event_39 : decode k_Fi_event.1 39 = .ok (.invokevirtual 130, 3) := by decide +kernel
theorem d_Fi_event_42 : decode k_Fi_event.1 42 = .ok (.iadd, 1) := by decide +kernel
theorem d_Fi_event_43 : decode k_Fi_event.1 43 = .ok (.ireturn, 1) := by decide +kernel
theorem d_Fi_count_0 : decode k_Fi_count.1 0 = .ok (.iload_n 1, 1) := by decide +kernel
theorem d_Fi_count_1 : decode k_Fi_count.1 1 = .ok (.tableswitch 107 0 6 #[43, 51, 59, 67, 75, 91, 99], 43) := by decide +kernel
theorem d_Fi_count_44 : decode k_Fi_count.1 44 = .ok (.aload_n 0, 1) := by decide +kernel
theorem d_Fi_count_45 : decode k_Fi_count.1 45 = .ok (.getfield 10, 3) := by decide +kernel
theorem d_Fi_count_48 : decode k_Fi_count.1 48 = .ok (.invokevirtual 186, 3) := by decide +kernel
theorem d_Fi_count_51 : decode k_Fi_count.1 51 = .ok (.ireturn, 1) := by decide +kernel
theorem d_Fi_count_52 : decode k_Fi_count.1 52 = .ok (.aload_n 0, 1) := by decide +kernel
theorem d_Fi_count_53 : decode k_Fi_count.1 53 = .ok (.getfield 10, 3) := by decide +kernel
theorem d_Fi_count_56 : decode k_Fi_count.1 56 = .ok (.invokevirtual 189, 3) := by decide +kernel
theorem d_Fi_count_59 : decode k_Fi_count.1 59 = .ok (.ireturn, 1) := by decide +kernel
theorem d_Fi_count_60 : decode k_Fi_count.1 60 = .ok (.aload_n 0, 1) := by decide +kernel
theorem d_Fi_count_61 : decode k_Fi_count.1 61 = .ok (.getfield 26, 3) := by decide +kernel
theorem d_Fi_count_64 : decode k_Fi_count.1 64 = .ok (.invokevirtual 192, 3) := by decide +kernel
theorem d_Fi_count_67 : decode k_Fi_count.1 67 = .ok (.ireturn, 1) := by decide +kernel
theorem d_Fi_count_68 : decode k_Fi_count.1 68 = .ok (.aload_n 0, 1) := by decide +kernel
theorem d_Fi_count_69 : decode k_Fi_count.1 69 = .ok (.getfield 19, 3) := by decide +kernel
theorem d_Fi_count_72 : decode k_Fi_count.1 72 = .ok (.invokevirtual 117, 3) := by decide +kernel
theorem d_Fi_count_75 : decode k_Fi_count.1 75 = .ok (.ireturn, 1) := by decide +kernel
theorem d_Fi_count_76 : decode k_Fi_count.1 76 = .ok (.aload_n 0, 1) := by decide +kernel
theorem d_Fi_count_77 : decode k_Fi_count.1 77 = .ok (.getfield 19, 3) := by decide +kernel
theorem d_Fi_count_80 : decode k_Fi_count.1 80 = .ok (.invokevirtual 113, 3) := by decide +kernel
theorem d_Fi_count_83 : decode k_Fi_count.1 83 = .ok (.ifCond .eq 7, 3) := by decide +kernel
theorem d_Fi_count_86 : decode k_Fi_count.1 86 = .ok (.iconst 1, 1) := by decide +kernel
theorem d_Fi_count_87 : decode k_Fi_count.1 87 = .ok (.goto 4, 3) := by decide +kernel
theorem d_Fi_count_90 : decode k_Fi_count.1 90 = .ok (.iconst 0, 1) := by decide +kernel
theorem d_Fi_count_91 : decode k_Fi_count.1 91 = .ok (.ireturn, 1) := by decide +kernel
theorem d_Fi_count_92 : decode k_Fi_count.1 92 = .ok (.aload_n 0, 1) := by decide +kernel
theorem d_Fi_count_93 : decode k_Fi_count.1 93 = .ok (.getfield 33, 3) := by decide +kernel
theorem d_Fi_count_96 : decode k_Fi_count.1 96 = .ok (.invokevirtual 151, 3) := by decide +kernel
theorem d_Fi_count_99 : decode k_Fi_count.1 99 = .ok (.ireturn, 1) := by decide +kernel
theorem d_Fi_count_100 : decode k_Fi_count.1 100 = .ok (.aload_n 0, 1) := by decide +kernel
theorem d_Fi_count_101 : decode k_Fi_count.1 101 = .ok (.getfield 26, 3) := by decide +kernel
theorem d_Fi_count_104 : decode k_Fi_count.1 104 = .ok (.invokevirtual 193, 3) := by decide +kernel
theorem d_Fi_count_107 : decode k_Fi_count.1 107 = .ok (.ireturn, 1) := by decide +kernel
theorem d_Fi_count_108 : decode k_Fi_count.1 108 = .ok (.new 55, 3) := by decide +kernel
theorem d_Fi_count_111 : decode k_Fi_count.1 111 = .ok (.dup, 1) := by decide +kernel
theorem d_Fi_count_112 : decode k_Fi_count.1 112 = .ok (.invokespecial 57, 3) := by decide +kernel
theorem d_Fi_count_115 : decode k_Fi_count.1 115 = .ok (.athrow, 1) := by decide +kernel
