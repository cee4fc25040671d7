theorem zd_Mo_count_13 : decode zc_Mo_count 13 = .ok (.goto 28, 3) := by decide +kernel
theorem zd_Mo_count_16 : decode zc_Mo_count 16 = .ok (.iload_n 1, 1) := by decide +kernel
theorem zd_Mo_count_17 : decode zc_Mo_count 17 = .ok (.iconst 1, 1) := by decide +kernel
theorem zd_Mo_count_18 : decode zc_Mo_count 18 = .ok (.if_icmp .ne 10, 3) := by decide +kernel
theorem zd_Mo_count_21 : decode zc_Mo_count 21 = .ok (.aload_n 0, 1) := by decide +kernel
theorem zd_Mo_count_22 : decode zc_Mo_count 22 = .ok (.getfield 122, 3) := by decide +kernel
theorem zd_Mo_count_25 : decode zc_Mo_count 25 = .ok (.goto 16, 3) := by decide +kernel
theorem zd_Mo_count_28 : decode zc_Mo_count 28 = .ok (.iload_n 1, 1) := by decide +kernel
theorem zd_Mo_count_29 : decode zc_Mo_count 29 = .ok (.iconst 2, 1) := by decide +kernel
theorem zd_Mo_count_30 : decode zc_Mo_count 30 = .ok (.if_icmp .ne 10, 3) := by decide +kernel
theorem zd_Mo_count_33 : decode zc_Mo_count 33 = .ok (.aload_n 0, 1) := by decide +kernel
theorem zd_Mo_count_34 : decode zc_Mo_count 34 = .ok (.getfield 125, 3) := by decide +kernel
theorem zd_Mo_count_37 : decode zc_Mo_count 37 = .ok (.goto 4, 3) := by decide +kernel
theorem zd_Mo_count_40 : decode zc_Mo_count 40 = .ok (.iconst (-1), 1) := by decide +kernel
theorem zd_Mo_count_41 : decode zc_Mo_count 41 = .ok (.ireturn, 1) := by decide +kernel
theorem zd_La_put_0 : decode zc_La_put 0 = .ok (.aload_n 2, 1) := by decide +kernel
theorem zd_La_put_1 : decode zc_La_put 1 = .ok (.iconst 0, 1) := by decide +kernel
theorem zd_La_put_2 : decode zc_La_put 2 = .ok (.aload_n 0, 1) := by decide +kernel
theorem zd_La_put_3 : decode zc_La_put 3 = .ok (.iload_n 1, 1) := by decide +kernel
theorem zd_La_put_4 : decode zc_La_put 4 = .ok (.invokevirtual 7, 3) := by decide +kernel
theorem zd_La_put_7 : decode zc_La_put 7 = .ok (.i2l, 1) := by decide +kernel
theorem zd_La_put_8 : decode zc_La_put 8 = .ok (.lastore, 1) := by decide +kernel
theorem zd_La_put_9 : decode zc_La_put 9 = .ok (.goto 6, 3) := by decide +kernel
theorem zd_La_put_12 : decode zc_La_put 12 = .ok (.astore_n 3, 1) := by decide +kernel
theorem zd_La_put_13 : decode zc_La_put 13 = .ok (.iconst 1, 1) := by decide +kernel
theorem zd_La_put_14 : decode zc_La_put 14 = .ok (.ireturn, 1) := by decide +kernel
theorem zd_La_put_15 : decode zc_La_put 15 = .ok (.iconst 0, 1) := by decide +kernel
theorem zd_La_put_16 : decode zc_La_put 16 = .ok (.ireturn, 1) := by decide +kernel
theorem zd_La_run_0 : decode zc_La_run 0 = .ok (.aload_n 1, 1) := by decide +kernel
theorem zd_La_run_1 : decode zc_La_run 1 = .ok (.iconst 0, 1) := by decide +kernel
theorem zd_La_run_2 : decode zc_La_run 2 = .ok (.aload_n 0, 1) := by decide +kernel
theorem zd_La_run_3 : decode zc_La_run 3 = .ok (.invokevirtual 15, 3) := by decide +kernel
theorem zd_La_run_6 : decode zc_La_run 6 = .ok (.i2l, 1) := by decide +kernel
theorem zd_La_run_7 : decode zc_La_run 7 = .ok (.lastore, 1) := by decide +kernel
theorem zd_La_run_8 : decode zc_La_run 8 = .ok (.goto 22, 3) := by decide +kernel
theorem zd_La_run_11 : decode zc_La_run 11 = .ok (.astore_n 2, 1) := by decide +kernel
theorem zd_La_run_12 : decode zc_La_run 12 = .ok (.iconst 1, 1) := by decide +kernel
theorem zd_La_run_13 : decode zc_La_run 13 = .ok (.ireturn, 1) := by decide +kernel
theorem zd_La_run_14 : decode zc_La_run 14 = .ok (.astore_n 2, 1) := by decide +kernel
theorem zd_La_run_15 : decode zc_La_run 15 = .ok (.iconst 2, 1) := by decide +kernel
theorem zd_La_run_16 : decode zc_La_run 16 = .ok (.ireturn, 1) := by decide +kernel
theorem zd_La_run_17 : decode zc_La_run 17 = .ok (.astore_n 2, 1) := by decide +kernel
theorem zd_La_run_18 : decode zc_La_run 18 = .ok (.iconst 3, 1) := by decide +kernel
theorem zd_La_run_19 : decode zc_La_run 19 = .ok (.ireturn, 1) := by decide +kernel
theorem zd_La_run_20 : decode zc_La_run 20 = .ok (.astore_n 2, 1) := by decide +kernel
theorem zd_La_run_21 : decode zc_La_run 21 = .ok (.iconst 4, 1) := by decide +kernel
theorem zd_La_run_22 : decode zc_La_run 22 = .ok (.ireturn, 1) := by decide +kernel
theorem zd_La_run_23 : decode zc_La_run 23 = .ok (.astore_n 2, 1) := by decide +kernel
theorem zd_La_run_24 : decode zc_La_run 24 = .ok (.iconst 5, 1) := by decide +kernel
theorem zd_La_run_25 : decode zc_La_run 25 = .ok (.ireturn, 1) := by decide +kernel
theorem zd_La_run_26 : decode zc_La_run 26 = .ok (.astore_n 2, 1) := by decide +kernel
theorem zd_La_run_27 : decode zc_La_run 27 = .ok (.bipush 6, 2) := by decide +kernel
theorem zd_La_run_29 : decode zc_La_run 29 = .ok (.ireturn, 1) := by decide +kernel
theorem zd_La_run_30 : decode zc_La_run 30 = .ok (.iconst 0, 1) := by decide +kernel
theorem zd_La_run_31 : decode zc_La_run 31 = .ok (.ireturn, 1) := by decide +kernel
theorem zd_La_row_0 : decode zc_La_row 0 = .ok (.aload_n 3, 1) := by decide +kernel
theorem zd_La_row_1 : decode zc_La_row 1 = .ok (.iconst 0, 1) := by decide +kernel
theorem zd_La_row_2 : decode zc_La_row 2 = .ok (.aload_n 0, 1) := by decide +kernel
theorem zd_La_row_3 : decode zc_La_row 3 = .ok (.iload_n 1, 1) := by decide +kernel
theorem zd_La_row_4 : decode zc_La_row 4 = .ok (.iload_n 2, 1) := by decide +kernel
theorem zd_La_row_5 : decode zc_La_row 5 = .ok (.invokevirtual 29, 3) := by decide +kernel
theorem zd_La_row_8 : decode zc_La_row 8 = .ok (.i2l, 1) := by decide +kernel
theorem zd_La_row_9 : decode zc_La_row 9 = .ok (.lastore, 1) := by decide +kernel
theorem zd_La_row_10 : decode zc_La_row 10 = .ok (.goto 7, 3) := by decide +kernel
theorem zd_La_row_13 : decode zc_La_row 13 = .ok (.astore 4, 2) := by decide +kernel
theorem zd_La_row_15 : decode zc_La_row 15 = .ok (.iconst 1, 1) := by decide +kernel
theorem zd_La_row_16 : decode zc_La_row 16 = .ok (.ireturn, 1) := by decide +kernel
theorem zd_La_row_17 : decode zc_La_row 17 = .ok (.iconst 0, 1) := by decide +kernel
theorem zd_La_row_18 : decode zc_La_row 18 = .ok (.ireturn, 1) := by decide +kernel
theorem zd_La_entry_0 : decode zc_La_entry 0 = .ok (.aload 6, 2) := by decide +kernel
theorem zd_La_entry_2 : decode zc_La_entry 2 = .ok (.iconst 0, 1) := by decide +kernel
theorem zd_La_entry_3 : decode zc_La_entry 3 = .ok (.aload_n 0, 1) := by decide +kernel
theorem zd_La_entry_4 : decode zc_La_entry 4 = .ok (.iload_n 1, 1) := by decide +kernel
theorem zd_La_entry_5 : decode zc_La_entry 5 = .ok (.iload_n 2, 1) := by decide +kernel
theorem zd_La_entry_6 : decode zc_La_entry 6 = .ok (.iload_n 3, 1) := by decide +kernel
theorem zd_La_entry_7 : decode zc_La_entry 7 = .ok (.iload 4, 2) := by decide +kernel
theorem zd_La_entry_9 : decode zc_La_entry 9 = .ok (.iload 5, 2) := by decide +kernel
theorem zd_La_entry_11 : decode zc_La_entry 11 = .ok (.invokevirtual 33, 3) := by decide +kernel
theorem zd_La_entry_14 : decode zc_La_entry 14 = .ok (.i2l, 1) := by decide +kernel
theorem zd_La_entry_15 : decode zc_La_entry 15 = .ok (.lastore, 1) := by decide +kernel
theorem zd_La_entry_16 : decode zc_La_entry 16 = .ok (.goto 11, 3) := by decide +kernel
theorem zd_La_entry_19 : decode zc_La_entry 19 = .ok (.astore 7, 2) := by decide +kernel
theorem zd_La_entry_21 : decode zc_La_entry 21 = .ok (.iconst 1, 1) := by decide +kernel
theorem zd_La_entry_22 : decode zc_La_entry 22 = .ok (.ireturn, 1) := by decide +kernel
theorem zd_La_entry_23 : decode zc_La_entry 23 = .ok (.astore 7, 2) := by decide +kernel
theorem zd_La_entry_25 : decode zc_La_entry 25 = .ok (.iconst 2, 1) := by decide +kernel
theorem zd_La_entry_26 : decode zc_La_entry 26 = .ok (.ireturn, 1) := by decide +kernel
theorem zd_La_entry_27 : decode zc_La_entry 27 = .ok (.iconst 0, 1) := by decide +kernel
theorem zd_La_entry_28 : decode zc_La_entry 28 = .ok (.ireturn, 1) := by decide +kernel
theorem zd_La_write_0 : decode zc_La_write 0 = .ok (.aload_n 2, 1) := by decide +kernel
theorem zd_La_write_1 : decode zc_La_write 1 = .ok (.iconst 0, 1) := by decide +kernel
theorem zd_La_write_2 : decode zc_La_write 2 = .ok (.aload_n 0, 1) := by decide +kernel
theorem zd_La_write_3 : decode zc_La_write 3 = .ok (.iload_n 1, 1) := by decide +kernel
theorem zd_La_write_4 : decode zc_La_write 4 = .ok (.invokevirtual 37, 3) := by decide +kernel
theorem zd_La_write_7 : decode zc_La_write 7 = .ok (.i2l, 1) := by decide +kernel
theorem zd_La_write_8 : decode zc_La_write 8 = .ok (.lastore, 1) := by decide +kernel
theorem zd_La_write_9 : decode zc_La_write 9 = .ok (.goto 12, 3) := by decide +kernel
theorem zd_La_write_12 : decode zc_La_write 12 = .ok (.astore_n 3, 1) := by decide +kernel
theorem zd_La_write_13 : decode zc_La_write 13 = .ok (.iconst 1, 1) := by decide +kernel
theorem zd_La_write_14 : decode zc_La_write 14 = .ok (.ireturn, 1) := by decide +kernel
theorem zd_La_write_15 : decode zc_La_write 15 = .ok (.astore_n 3, 1) := by decide +kernel
theorem zd_La_write_16 : decode zc_La_write 16 = .ok (.iconst 2, 1) := by decide +kernel
theorem zd_La_write_17 : decode zc_La_write 17 = .ok (.ireturn, 1) := by decide +kernel
theorem zd_La_write_18 : decode zc_La_write 18 = .ok (.astore_n 3, 1) := by decide +kernel
theorem zd_La_write_19 : decode zc_La_write 19 = .ok (.iconst 3, 1) := by decide +kernel
theorem zd_La_write_20 : decode zc_La_write 20 = .ok (.ireturn, 1) := by decide +kernel
theorem zd_La_write_21 : decode zc_La_write 21 = .ok (.iconst 0, 1) := by decide +kernel
theorem zd_La_write_22 : decode zc_La_write 22 = .ok (.ireturn, 1) := by decide +kernel
theorem zd_La_law_0 : decode zc_La_law 0 = .ok (.new 8, 3) := by decide +kernel
theorem zd_La_law_3 : decode zc_La_law 3 = .ok (.dup, 1) := by decide +kernel
theorem zd_La_law_4 : decode zc_La_law 4 = .ok (.invokespecial 40, 3) := by decide +kernel
theorem zd_La_law_7 : decode zc_La_law 7 = .ok (.astore_n 1, 1) := by decide +kernel
theorem zd_La_law_8 : decode zc_La_law 8 = .ok (.new 41, 3) := by decide +kernel
theorem zd_La_law_11 : decode zc_La_law 11 = .ok (.dup, 1) := by decide +kernel
theorem zd_La_law_12 : decode zc_La_law 12 = .ok (.invokespecial 43, 3) := by decide +kernel
theorem zd_La_law_15 : decode zc_La_law 15 = .ok (.astore_n 2, 1) := by decide +kernel
theorem zd_La_law_16 : decode zc_La_law 16 = .ok (.iconst 1, 1) := by decide +kernel
theorem zd_La_law_17 : decode zc_La_law 17 = .ok (.newarray .long, 2) := by decide +kernel
theorem zd_La_law_19 : decode zc_La_law 19 = .ok (.astore_n 3, 1) := by decide +kernel
theorem zd_La_law_20 : decode zc_La_law 20 = .ok (.iconst 0, 1) := by decide +kernel
theorem zd_La_law_21 : decode zc_La_law 21 = .ok (.istore 4, 2) := by decide +kernel
theorem zd_La_law_23 : decode zc_La_law 23 = .ok (.iload 4, 2) := by decide +kernel
theorem zd_La_law_25 : decode zc_La_law 25 = .ok (.aload_n 0, 1) := by decide +kernel
theorem zd_La_law_26 : decode zc_La_law 26 = .ok (.arraylength, 1) := by decide +kernel
theorem zd_La_law_27 : decode zc_La_law 27 = .ok (.bipush 6, 2) := by decide +kernel
theorem zd_La_law_29 : decode zc_La_law 29 = .ok (.isub, 1) := by decide +kernel
theorem zd_La_law_30 : decode zc_La_law 30 = .ok (.if_icmp .gt 549, 3) := by decide +kernel
theorem zd_La_law_33 : decode zc_La_law 33 = .ok (.aload_n 0, 1) := by decide +kernel
theorem zd_La_law_34 : decode zc_La_law 34 = .ok (.iload 4, 2) := by decide +kernel
theorem zd_La_law_36 : decode zc_La_law 36 = .ok (.iaload, 1) := by decide +kernel
theorem zd_La_law_37 : decode zc_La_law 37 = .ok (.bipush 15, 2) := by decide +kernel
theorem zd_La_law_39 : decode zc_La_law 39 = .ok (.iand, 1) := by decide +kernel
theorem zd_La_law_40 : decode zc_La_law 40 = .ok (.tableswitch 533 0 9 #[56, 117, 173, 186, 211, 255, 323, 348, 452, 508], 56) := by decide +kernel
theorem zd_La_law_96 : decode zc_La_law 96 = .ok (.aload_n 1, 1) := by decide +kernel
theorem zd_La_law_97 : decode zc_La_law 97 = .ok (.aload_n 0, 1) := by decide +kernel
theorem zd_La_law_98 : decode zc_La_law 98 = .ok (.iload 4, 2) := by decide +kernel
theorem zd_La_law_100 : decode zc_La_law 100 = .ok (.iconst 1, 1) := by decide +kernel
theorem zd_La_law_101 : decode zc_La_law 101 = .ok (.iadd, 1) := by decide +kernel
theorem zd_La_law_102 : decode zc_La_law 102 = .ok (.iaload, 1) := by decide +kernel
theorem zd_La_law_103 : decode zc_La_law 103 = .ok (.aload_n 0, 1) := by decide +kernel
theorem zd_La_law_104 : decode zc_La_law 104 = .ok (.iload 4, 2) := by decide +kernel
theorem zd_La_law_106 : decode zc_La_law 106 = .ok (.iconst 2, 1) := by decide +kernel
theorem zd_La_law_107 : decode zc_La_law 107 = .ok (.iadd, 1) := by decide +kernel
theorem zd_La_law_108 : decode zc_La_law 108 = .ok (.iaload, 1) := by decide +kernel
theorem zd_La_law_109 : decode zc_La_law 109 = .ok (.aload_n 0, 1) := by decide +kernel
theorem zd_La_law_110 : decode zc_La_law 110 = .ok (.iload 4, 2) := by decide +kernel
theorem zd_La_law_112 : decode zc_La_law 112 = .ok (.iconst 3, 1) := by decide +kernel
theorem zd_La_law_113 : decode zc_La_law 113 = .ok (.iadd, 1) := by decide +kernel
theorem zd_La_law_114 : decode zc_La_law 114 = .ok (.iaload, 1) := by decide +kernel
theorem zd_La_law_115 : decode zc_La_law 115 = .ok (.aload_n 0, 1) := by decide +kernel
