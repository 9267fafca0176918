theorem d_Lw_type_16 : decode k_Lw_type.1 16 = .ok (.iconst 2, 1) := by decide +kernel
theorem d_Lw_type_17 : decode k_Lw_type.1 17 = .ok (.ireturn, 1) := by decide +kernel
theorem d_Lw_type_18 : decode k_Lw_type.1 18 = .ok (.iconst 0, 1) := by decide +kernel
theorem d_Lw_type_19 : decode k_Lw_type.1 19 = .ok (.ireturn, 1) := by decide +kernel
theorem d_Lw_search_0 : decode k_Lw_search.1 0 = .ok (.aload_n 2, 1) := by decide +kernel
theorem d_Lw_search_1 : decode k_Lw_search.1 1 = .ok (.iconst 0, 1) := by decide +kernel
theorem d_Lw_search_2 : decode k_Lw_search.1 2 = .ok (.aload_n 0, 1) := by decide +kernel
theorem d_Lw_search_3 : decode k_Lw_search.1 3 = .ok (.iload_n 1, 1) := by decide +kernel
theorem d_Lw_search_4 : decode k_Lw_search.1 4 = .ok (.invokevirtual 40, 3) := by decide +kernel
theorem d_Lw_search_7 : decode k_Lw_search.1 7 = .ok (.i2l, 1) := by decide +kernel
theorem d_Lw_search_8 : decode k_Lw_search.1 8 = .ok (.lastore, 1) := by decide +kernel
theorem d_Lw_search_9 : decode k_Lw_search.1 9 = .ok (.goto 9, 3) := by decide +kernel
theorem d_Lw_search_12 : decode k_Lw_search.1 12 = .ok (.astore_n 3, 1) := by decide +kernel
theorem d_Lw_search_13 : decode k_Lw_search.1 13 = .ok (.iconst 1, 1) := by decide +kernel
theorem d_Lw_search_14 : decode k_Lw_search.1 14 = .ok (.ireturn, 1) := by decide +kernel
theorem d_Lw_search_15 : decode k_Lw_search.1 15 = .ok (.astore_n 3, 1) := by decide +kernel
theorem d_Lw_search_16 : decode k_Lw_search.1 16 = .ok (.iconst 2, 1) := by decide +kernel
theorem d_Lw_search_17 : decode k_Lw_search.1 17 = .ok (.ireturn, 1) := by decide +kernel
theorem d_Lw_search_18 : decode k_Lw_search.1 18 = .ok (.iconst 0, 1) := by decide +kernel
theorem d_Lw_search_19 : decode k_Lw_search.1 19 = .ok (.ireturn, 1) := by decide +kernel
theorem d_Lw_result_0 : decode k_Lw_result.1 0 = .ok (.aload_n 3, 1) := by decide +kernel
theorem d_Lw_result_1 : decode k_Lw_result.1 1 = .ok (.iconst 0, 1) := by decide +kernel
theorem d_Lw_result_2 : decode k_Lw_result.1 2 = .ok (.aload_n 0, 1) := by decide +kernel
theorem d_Lw_result_3 : decode k_Lw_result.1 3 = .ok (.iload_n 1, 1) := by decide +kernel
theorem d_Lw_result_4 : decode k_Lw_result.1 4 = .ok (.iload_n 2, 1) := by decide +kernel
theorem d_Lw_result_5 : decode k_Lw_result.1 5 = .ok (.invokevirtual 43, 3) := by decide +kernel
theorem d_Lw_result_8 : decode k_Lw_result.1 8 = .ok (.i2l, 1) := by decide +kernel
theorem d_Lw_result_9 : decode k_Lw_result.1 9 = .ok (.lastore, 1) := by decide +kernel
theorem d_Lw_result_10 : decode k_Lw_result.1 10 = .ok (.goto 11, 3) := by decide +kernel
theorem d_Lw_result_13 : decode k_Lw_result.1 13 = .ok (.astore 4, 2) := by decide +kernel
theorem d_Lw_result_15 : decode k_Lw_result.1 15 = .ok (.iconst 1, 1) := by decide +kernel
theorem d_Lw_result_16 : decode k_Lw_result.1 16 = .ok (.ireturn, 1) := by decide +kernel
theorem d_Lw_result_17 : decode k_Lw_result.1 17 = .ok (.astore 4, 2) := by decide +kernel
theorem d_Lw_result_19 : decode k_Lw_result.1 19 = .ok (.iconst 2, 1) := by decide +kernel
theorem d_Lw_result_20 : decode k_Lw_result.1 20 = .ok (.ireturn, 1) := by decide +kernel
theorem d_Lw_result_21 : decode k_Lw_result.1 21 = .ok (.iconst 0, 1) := by decide +kernel
theorem d_Lw_result_22 : decode k_Lw_result.1 22 = .ok (.ireturn, 1) := by decide +kernel
theorem d_Lw_words_0 : decode k_Lw_words.1 0 = .ok (.aload_n 2, 1) := by decide +kernel
theorem d_Lw_words_1 : decode k_Lw_words.1 1 = .ok (.iconst 0, 1) := by decide +kernel
theorem d_Lw_words_2 : decode k_Lw_words.1 2 = .ok (.aload_n 0, 1) := by decide +kernel
theorem d_Lw_words_3 : decode k_Lw_words.1 3 = .ok (.iload_n 1, 1) := by decide +kernel
theorem d_Lw_words_4 : decode k_Lw_words.1 4 = .ok (.invokevirtual 46, 3) := by decide +kernel
theorem d_Lw_words_7 : decode k_Lw_words.1 7 = .ok (.i2l, 1) := by decide +kernel
theorem d_Lw_words_8 : decode k_Lw_words.1 8 = .ok (.lastore, 1) := by decide +kernel
theorem d_Lw_words_9 : decode k_Lw_words.1 9 = .ok (.goto 6, 3) := by decide +kernel
theorem d_Lw_words_12 : decode k_Lw_words.1 12 = .ok (.astore_n 3, 1) := by decide +kernel
theorem d_Lw_words_13 : decode k_Lw_words.1 13 = .ok (.iconst 1, 1) := by decide +kernel
theorem d_Lw_words_14 : decode k_Lw_words.1 14 = .ok (.ireturn, 1) := by decide +kernel
theorem d_Lw_words_15 : decode k_Lw_words.1 15 = .ok (.iconst 0, 1) := by decide +kernel
theorem d_Lw_words_16 : decode k_Lw_words.1 16 = .ok (.ireturn, 1) := by decide +kernel
theorem d_Lw_event_0 : decode k_Lw_event.1 0 = .ok (.aload_n 2, 1) := by decide +kernel
theorem d_Lw_event_1 : decode k_Lw_event.1 1 = .ok (.iconst 0, 1) := by decide +kernel
theorem d_Lw_event_2 : decode k_Lw_event.1 2 = .ok (.aload_n 0, 1) := by decide +kernel
theorem d_Lw_event_3 : decode k_Lw_event.1 3 = .ok (.iload_n 1, 1) := by decide +kernel
theorem d_Lw_event_4 : decode k_Lw_event.1 4 = .ok (.invokevirtual 49, 3) := by decide +kernel
theorem d_Lw_event_7 : decode k_Lw_event.1 7 = .ok (.i2l, 1) := by decide +kernel
theorem d_Lw_event_8 : decode k_Lw_event.1 8 = .ok (.lastore, 1) := by decide +kernel
theorem d_Lw_event_9 : decode k_Lw_event.1 9 = .ok (.goto 6, 3) := by decide +kernel
theorem d_Lw_event_12 : decode k_Lw_event.1 12 = .ok (.astore_n 3, 1) := by decide +kernel
theorem d_Lw_event_13 : decode k_Lw_event.1 13 = .ok (.iconst 1, 1) := by decide +kernel
theorem d_Lw_event_14 : decode k_Lw_event.1 14 = .ok (.ireturn, 1) := by decide +kernel
theorem d_Lw_event_15 : decode k_Lw_event.1 15 = .ok (.iconst 0, 1) := by decide +kernel
theorem d_Lw_event_16 : decode k_Lw_event.1 16 = .ok (.ireturn, 1) := by decide +kernel
theorem d_Lw_count_0 : decode k_Lw_count.1 0 = .ok (.aload_n 2, 1) := by decide +kernel
theorem d_Lw_count_1 : decode k_Lw_count.1 1 = .ok (.iconst 0, 1) := by decide +kernel
theorem d_Lw_count_2 : decode k_Lw_count.1 2 = .ok (.aload_n 0, 1) := by decide +kernel
theorem d_Lw_count_3 : decode k_Lw_count.1 3 = .ok (.iload_n 1, 1) := by decide +kernel
theorem d_Lw_count_4 : decode k_Lw_count.1 4 = .ok (.invokevirtual 52, 3) := by decide +kernel
theorem d_Lw_count_7 : decode k_Lw_count.1 7 = .ok (.i2l, 1) := by decide +kernel
theorem d_Lw_count_8 : decode k_Lw_count.1 8 = .ok (.lastore, 1) := by decide +kernel
theorem d_Lw_count_9 : decode k_Lw_count.1 9 = .ok (.goto 6, 3) := by decide +kernel
theorem d_Lw_count_12 : decode k_Lw_count.1 12 = .ok (.astore_n 3, 1) := by decide +kernel
theorem d_Lw_count_13 : decode k_Lw_count.1 13 = .ok (.iconst 1, 1) := by decide +kernel
theorem d_Lw_count_14 : decode k_Lw_count.1 14 = .ok (.ireturn, 1) := by decide +kernel
theorem d_Lw_count_15 : decode k_Lw_count.1 15 = .ok (.iconst 0, 1) := by decide +kernel
theorem d_Lw_count_16 : decode k_Lw_count.1 16 = .ok (.ireturn, 1) := by decide +kernel
theorem d_Lw_law_0 : decode k_Lw_law.1 0 = .ok (.new 8, 3) := by decide +kernel
theorem d_Lw_law_3 : decode k_Lw_law.1 3 = .ok (.dup, 1) := by decide +kernel
theorem d_Lw_law_4 : decode k_Lw_law.1 4 = .ok (.invokespecial 55, 3) := by decide +kernel
theorem d_Lw_law_7 : decode k_Lw_law.1 7 = .ok (.astore_n 1, 1) := by decide +kernel
theorem d_Lw_law_8 : decode k_Lw_law.1 8 = .ok (.new 56, 3) := by decide +kernel
theorem d_Lw_law_11 : decode k_Lw_law.1 11 = .ok (.dup, 1) := by decide +kernel
theorem d_Lw_law_12 : decode k_Lw_law.1 12 = .ok (.invokespecial 58, 3) := by decide +kernel
theorem d_Lw_law_15 : decode k_Lw_law.1 15 = .ok (.astore_n 2, 1) := by decide +kernel
theorem d_Lw_law_16 : decode k_Lw_law.1 16 = .ok (.iconst 1, 1) := by decide +kernel
theorem d_Lw_law_17 : decode k_Lw_law.1 17 = .ok (.newarray .long, 2) := by decide +kernel
theorem d_Lw_law_19 : decode k_Lw_law.1 19 = .ok (.astore_n 3, 1) := by decide +kernel
theorem d_Lw_law_20 : decode k_Lw_law.1 20 = .ok (.iconst 0, 1) := by decide +kernel
theorem d_Lw_law_21 : decode k_Lw_law.1 21 = .ok (.istore 4, 2) := by decide +kernel
theorem d_Lw_law_23 : decode k_Lw_law.1 23 = .ok (.iload 4, 2) := by decide +kernel
theorem d_Lw_law_25 : decode k_Lw_law.1 25 = .ok (.aload_n 0, 1) := by decide +kernel
theorem d_Lw_law_26 : decode k_Lw_law.1 26 = .ok (.arraylength, 1) := by decide +kernel
theorem d_Lw_law_27 : decode k_Lw_law.1 27 = .ok (.iconst 5, 1) := by decide +kernel
theorem d_Lw_law_28 : decode k_Lw_law.1 28 = .ok (.isub, 1) := by decide +kernel
theorem d_Lw_law_29 : decode k_Lw_law.1 29 = .ok (.if_icmp .gt 915, 3) := by decide +kernel
theorem d_Lw_law_32 : decode k_Lw_law.1 32 = .ok (.aload_n 0, 1) := by decide +kernel
theorem d_Lw_law_33 : decode k_Lw_law.1 33 = .ok (.iload 4, 2) := by decide +kernel
theorem d_Lw_law_35 : decode k_Lw_law.1 35 = .ok (.iaload, 1) := by decide +kernel
theorem d_Lw_law_36 : decode k_Lw_law.1 36 = .ok (.bipush 15, 2) := by decide +kernel
theorem d_Lw_law_38 : decode k_Lw_law.1 38 = .ok (.iand, 1) := by decide +kernel
theorem d_Lw_law_39 : decode k_Lw_law.1 39 = .ok (.tableswitch 899 0 13 #[69, 165, 277, 345, 401, 469, 525, 538, 594, 650, 663, 731, 787, 843], 69) := by decide +kernel
theorem d_Lw_law_108 : decode k_Lw_law.1 108 = .ok (.aload_n 1, 1) := by decide +kernel
theorem d_Lw_law_109 : decode k_Lw_law.1 109 = .ok (.aload_n 0, 1) := by decide +kernel
theorem d_Lw_law_110 : decode k_Lw_law.1 110 = .ok (.iload 4, 2) := by decide +kernel
theorem d_Lw_law_112 : decode k_Lw_law.1 112 = .ok (.iconst 1, 1) := by decide +kernel
theorem d_Lw_law_113 : decode k_Lw_law.1 113 = .ok (.iadd, 1) := by decide +kernel
theorem d_Lw_law_114 : decode k_Lw_law.1 114 = .ok (.iaload, 1) := by decide +kernel
theorem d_Lw_law_115 : decode k_Lw_law.1 115 = .ok (.aload_n 0, 1) := by decide +kernel
theorem d_Lw_law_116 : decode k_Lw_law.1 116 = .ok (.iload 4, 2) := by decide +kernel
theorem d_Lw_law_118 : decode k_Lw_law.1 118 = .ok (.iconst 2, 1) := by decide +kernel
theorem d_Lw_law_119 : decode k_Lw_law.1 119 = .ok (.iadd, 1) := by decide +kernel
theorem d_Lw_law_120 : decode k_Lw_law.1 120 = .ok (.iaload, 1) := by decide +kernel
theorem d_Lw_law_121 : decode k_Lw_law.1 121 = .ok (.aload_n 0, 1) := by decide +kernel
theorem d_Lw_law_122 : decode k_Lw_law.1 122 = .ok (.iload 4, 2) := by decide +kernel
theorem d_Lw_law_124 : decode k_Lw_law.1 124 = .ok (.iconst 3, 1) := by decide +kernel
theorem d_Lw_law_125 : decode k_Lw_law.1 125 = .ok (.iadd, 1) := by decide +kernel
theorem d_Lw_law_126 : decode k_Lw_law.1 126 = .ok (.iaload, 1) := by decide +kernel
theorem d_Lw_law_127 : decode k_Lw_law.1 127 = .ok (.ifCond .eq 7, 3) := by decide +kernel
theorem d_Lw_law_130 : decode k_Lw_law.1 130 = .ok (.iconst 1, 1) := by decide +kernel
theorem d_Lw_law_131 : decode k_Lw_law.1 131 = .ok (.goto 4, 3) := by decide +kernel
