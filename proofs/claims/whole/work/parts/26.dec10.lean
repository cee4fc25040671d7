theorem zd_Mo_clear_12 : decode zc_Mo_clear 12 = .ok (.putfield 41, 3) := by decide +kernel
theorem zd_Mo_clear_15 : decode zc_Mo_clear 15 = .ok (.iload_n 1, 1) := by decide +kernel
theorem zd_Mo_clear_16 : decode zc_Mo_clear 16 = .ok (.ireturn, 1) := by decide +kernel
theorem zd_Mo_byteAt_0 : decode zc_Mo_byteAt 0 = .ok (.aload_n 0, 1) := by decide +kernel
theorem zd_Mo_byteAt_1 : decode zc_Mo_byteAt 1 = .ok (.iconst 0, 1) := by decide +kernel
theorem zd_Mo_byteAt_2 : decode zc_Mo_byteAt 2 = .ok (.putfield 38, 3) := by decide +kernel
theorem zd_Mo_byteAt_5 : decode zc_Mo_byteAt 5 = .ok (.iload_n 1, 1) := by decide +kernel
theorem zd_Mo_byteAt_6 : decode zc_Mo_byteAt 6 = .ok (.ifCond .lt 11, 3) := by decide +kernel
theorem zd_Mo_byteAt_9 : decode zc_Mo_byteAt 9 = .ok (.iload_n 1, 1) := by decide +kernel
theorem zd_Mo_byteAt_10 : decode zc_Mo_byteAt 10 = .ok (.aload_n 0, 1) := by decide +kernel
theorem zd_Mo_byteAt_11 : decode zc_Mo_byteAt 11 = .ok (.getfield 41, 3) := by decide +kernel
theorem zd_Mo_byteAt_14 : decode zc_Mo_byteAt 14 = .ok (.if_icmp .lt 7, 3) := by decide +kernel
theorem zd_Mo_byteAt_17 : decode zc_Mo_byteAt 17 = .ok (.iconst (-1), 1) := by decide +kernel
theorem zd_Mo_byteAt_18 : decode zc_Mo_byteAt 18 = .ok (.goto 9, 3) := by decide +kernel
theorem zd_Mo_byteAt_21 : decode zc_Mo_byteAt 21 = .ok (.aload_n 0, 1) := by decide +kernel
theorem zd_Mo_byteAt_22 : decode zc_Mo_byteAt 22 = .ok (.getfield 22, 3) := by decide +kernel
theorem zd_Mo_byteAt_25 : decode zc_Mo_byteAt 25 = .ok (.iload_n 1, 1) := by decide +kernel
theorem zd_Mo_byteAt_26 : decode zc_Mo_byteAt 26 = .ok (.iaload, 1) := by decide +kernel
theorem zd_Mo_byteAt_27 : decode zc_Mo_byteAt 27 = .ok (.ireturn, 1) := by decide +kernel
theorem zd_Mo_run_0 : decode zc_Mo_run 0 = .ok (.aload_n 0, 1) := by decide +kernel
theorem zd_Mo_run_1 : decode zc_Mo_run 1 = .ok (.iconst 0, 1) := by decide +kernel
theorem zd_Mo_run_2 : decode zc_Mo_run 2 = .ok (.putfield 47, 3) := by decide +kernel
theorem zd_Mo_run_5 : decode zc_Mo_run 5 = .ok (.aload_n 0, 1) := by decide +kernel
theorem zd_Mo_run_6 : decode zc_Mo_run 6 = .ok (.iconst 0, 1) := by decide +kernel
theorem zd_Mo_run_7 : decode zc_Mo_run 7 = .ok (.putfield 44, 3) := by decide +kernel
theorem zd_Mo_run_10 : decode zc_Mo_run 10 = .ok (.aload_n 0, 1) := by decide +kernel
theorem zd_Mo_run_11 : decode zc_Mo_run 11 = .ok (.iconst 0, 1) := by decide +kernel
theorem zd_Mo_run_12 : decode zc_Mo_run 12 = .ok (.putfield 88, 3) := by decide +kernel
theorem zd_Mo_run_15 : decode zc_Mo_run 15 = .ok (.aload_n 0, 1) := by decide +kernel
theorem zd_Mo_run_16 : decode zc_Mo_run 16 = .ok (.invokevirtual 101, 3) := by decide +kernel
theorem zd_Mo_run_19 : decode zc_Mo_run 19 = .ok (.iconst 1, 1) := by decide +kernel
theorem zd_Mo_run_20 : decode zc_Mo_run 20 = .ok (.istore_n 1, 1) := by decide +kernel
theorem zd_Mo_run_21 : decode zc_Mo_run 21 = .ok (.aload_n 0, 1) := by decide +kernel
theorem zd_Mo_run_22 : decode zc_Mo_run 22 = .ok (.getfield 47, 3) := by decide +kernel
theorem zd_Mo_run_25 : decode zc_Mo_run 25 = .ok (.aload_n 0, 1) := by decide +kernel
theorem zd_Mo_run_26 : decode zc_Mo_run 26 = .ok (.getfield 41, 3) := by decide +kernel
theorem zd_Mo_run_29 : decode zc_Mo_run 29 = .ok (.if_icmp .ge 31, 3) := by decide +kernel
theorem zd_Mo_run_32 : decode zc_Mo_run 32 = .ok (.aload_n 0, 1) := by decide +kernel
theorem zd_Mo_run_33 : decode zc_Mo_run 33 = .ok (.getfield 44, 3) := by decide +kernel
theorem zd_Mo_run_36 : decode zc_Mo_run 36 = .ok (.ifCond .ne 24, 3) := by decide +kernel
theorem zd_Mo_run_39 : decode zc_Mo_run 39 = .ok (.aload_n 0, 1) := by decide +kernel
theorem zd_Mo_run_40 : decode zc_Mo_run 40 = .ok (.iconst 0, 1) := by decide +kernel
theorem zd_Mo_run_41 : decode zc_Mo_run 41 = .ok (.putfield 104, 3) := by decide +kernel
theorem zd_Mo_run_44 : decode zc_Mo_run 44 = .ok (.aload_n 0, 1) := by decide +kernel
theorem zd_Mo_run_45 : decode zc_Mo_run 45 = .ok (.aload_n 0, 1) := by decide +kernel
theorem zd_Mo_run_46 : decode zc_Mo_run 46 = .ok (.invokevirtual 54, 3) := by decide +kernel
theorem zd_Mo_run_49 : decode zc_Mo_run 49 = .ok (.invokevirtual 119, 3) := by decide +kernel
theorem zd_Mo_run_52 : decode zc_Mo_run 52 = .ok (.aload_n 0, 1) := by decide +kernel
theorem zd_Mo_run_53 : decode zc_Mo_run 53 = .ok (.getfield 104, 3) := by decide +kernel
theorem zd_Mo_run_56 : decode zc_Mo_run 56 = .ok (.istore_n 1, 1) := by decide +kernel
theorem zd_Mo_run_57 : decode zc_Mo_run 57 = .ok (.goto (-36), 3) := by decide +kernel
theorem zd_Mo_run_60 : decode zc_Mo_run 60 = .ok (.iload_n 1, 1) := by decide +kernel
theorem zd_Mo_run_61 : decode zc_Mo_run 61 = .ok (.ifCond .ne 9, 3) := by decide +kernel
theorem zd_Mo_run_64 : decode zc_Mo_run 64 = .ok (.aload_n 0, 1) := by decide +kernel
theorem zd_Mo_run_65 : decode zc_Mo_run 65 = .ok (.bipush 6, 2) := by decide +kernel
theorem zd_Mo_run_67 : decode zc_Mo_run 67 = .ok (.invokevirtual 50, 3) := by decide +kernel
theorem zd_Mo_run_70 : decode zc_Mo_run 70 = .ok (.aload_n 0, 1) := by decide +kernel
theorem zd_Mo_run_71 : decode zc_Mo_run 71 = .ok (.aload_n 0, 1) := by decide +kernel
theorem zd_Mo_run_72 : decode zc_Mo_run 72 = .ok (.getfield 44, 3) := by decide +kernel
theorem zd_Mo_run_75 : decode zc_Mo_run 75 = .ok (.putfield 38, 3) := by decide +kernel
theorem zd_Mo_run_78 : decode zc_Mo_run 78 = .ok (.aload_n 0, 1) := by decide +kernel
theorem zd_Mo_run_79 : decode zc_Mo_run 79 = .ok (.getfield 44, 3) := by decide +kernel
theorem zd_Mo_run_82 : decode zc_Mo_run 82 = .ok (.ifCond .eq 5, 3) := by decide +kernel
theorem zd_Mo_run_85 : decode zc_Mo_run 85 = .ok (.iconst 0, 1) := by decide +kernel
theorem zd_Mo_run_86 : decode zc_Mo_run 86 = .ok (.ireturn, 1) := by decide +kernel
theorem zd_Mo_run_87 : decode zc_Mo_run 87 = .ok (.aload_n 0, 1) := by decide +kernel
theorem zd_Mo_run_88 : decode zc_Mo_run 88 = .ok (.aload_n 0, 1) := by decide +kernel
theorem zd_Mo_run_89 : decode zc_Mo_run 89 = .ok (.getfield 88, 3) := by decide +kernel
theorem zd_Mo_run_92 : decode zc_Mo_run 92 = .ok (.putfield 122, 3) := by decide +kernel
theorem zd_Mo_run_95 : decode zc_Mo_run 95 = .ok (.iconst 0, 1) := by decide +kernel
theorem zd_Mo_run_96 : decode zc_Mo_run 96 = .ok (.istore_n 2, 1) := by decide +kernel
theorem zd_Mo_run_97 : decode zc_Mo_run 97 = .ok (.iload_n 2, 1) := by decide +kernel
theorem zd_Mo_run_98 : decode zc_Mo_run 98 = .ok (.bipush 7, 2) := by decide +kernel
theorem zd_Mo_run_100 : decode zc_Mo_run 100 = .ok (.aload_n 0, 1) := by decide +kernel
theorem zd_Mo_run_101 : decode zc_Mo_run 101 = .ok (.getfield 122, 3) := by decide +kernel
theorem zd_Mo_run_104 : decode zc_Mo_run 104 = .ok (.imul, 1) := by decide +kernel
theorem zd_Mo_run_105 : decode zc_Mo_run 105 = .ok (.if_icmp .ge 21, 3) := by decide +kernel
theorem zd_Mo_run_108 : decode zc_Mo_run 108 = .ok (.aload_n 0, 1) := by decide +kernel
theorem zd_Mo_run_109 : decode zc_Mo_run 109 = .ok (.getfield 26, 3) := by decide +kernel
theorem zd_Mo_run_112 : decode zc_Mo_run 112 = .ok (.iload_n 2, 1) := by decide +kernel
theorem zd_Mo_run_113 : decode zc_Mo_run 113 = .ok (.aload_n 0, 1) := by decide +kernel
theorem zd_Mo_run_114 : decode zc_Mo_run 114 = .ok (.getfield 29, 3) := by decide +kernel
theorem zd_Mo_run_117 : decode zc_Mo_run 117 = .ok (.iload_n 2, 1) := by decide +kernel
theorem zd_Mo_run_118 : decode zc_Mo_run 118 = .ok (.iaload, 1) := by decide +kernel
theorem zd_Mo_run_119 : decode zc_Mo_run 119 = .ok (.iastore, 1) := by decide +kernel
theorem zd_Mo_run_120 : decode zc_Mo_run 120 = .ok (.iinc 2 1, 3) := by decide +kernel
theorem zd_Mo_run_123 : decode zc_Mo_run 123 = .ok (.goto (-26), 3) := by decide +kernel
theorem zd_Mo_run_126 : decode zc_Mo_run 126 = .ok (.aload_n 0, 1) := by decide +kernel
theorem zd_Mo_run_127 : decode zc_Mo_run 127 = .ok (.getfield 122, 3) := by decide +kernel
theorem zd_Mo_run_130 : decode zc_Mo_run 130 = .ok (.ireturn, 1) := by decide +kernel
theorem zd_Mo_begin_0 : decode zc_Mo_begin 0 = .ok (.aload_n 0, 1) := by decide +kernel
theorem zd_Mo_begin_1 : decode zc_Mo_begin 1 = .ok (.lconst 0, 1) := by decide +kernel
theorem zd_Mo_begin_2 : decode zc_Mo_begin 2 = .ok (.putfield 62, 3) := by decide +kernel
theorem zd_Mo_begin_5 : decode zc_Mo_begin 5 = .ok (.aload_n 0, 1) := by decide +kernel
theorem zd_Mo_begin_6 : decode zc_Mo_begin 6 = .ok (.lconst 1, 1) := by decide +kernel
theorem zd_Mo_begin_7 : decode zc_Mo_begin 7 = .ok (.putfield 66, 3) := by decide +kernel
theorem zd_Mo_begin_10 : decode zc_Mo_begin 10 = .ok (.aload_n 0, 1) := by decide +kernel
theorem zd_Mo_begin_11 : decode zc_Mo_begin 11 = .ok (.lconst 1, 1) := by decide +kernel
theorem zd_Mo_begin_12 : decode zc_Mo_begin 12 = .ok (.putfield 69, 3) := by decide +kernel
theorem zd_Mo_begin_15 : decode zc_Mo_begin 15 = .ok (.aload_n 0, 1) := by decide +kernel
theorem zd_Mo_begin_16 : decode zc_Mo_begin 16 = .ok (.lconst 0, 1) := by decide +kernel
theorem zd_Mo_begin_17 : decode zc_Mo_begin 17 = .ok (.putfield 72, 3) := by decide +kernel
theorem zd_Mo_begin_20 : decode zc_Mo_begin 20 = .ok (.aload_n 0, 1) := by decide +kernel
theorem zd_Mo_begin_21 : decode zc_Mo_begin 21 = .ok (.aload_n 0, 1) := by decide +kernel
theorem zd_Mo_begin_22 : decode zc_Mo_begin 22 = .ok (.getfield 19, 3) := by decide +kernel
theorem zd_Mo_begin_25 : decode zc_Mo_begin 25 = .ok (.putfield 75, 3) := by decide +kernel
theorem zd_Mo_begin_28 : decode zc_Mo_begin 28 = .ok (.aload_n 0, 1) := by decide +kernel
theorem zd_Mo_begin_29 : decode zc_Mo_begin 29 = .ok (.iconst 0, 1) := by decide +kernel
theorem zd_Mo_begin_30 : decode zc_Mo_begin 30 = .ok (.putfield 78, 3) := by decide +kernel
theorem zd_Mo_begin_33 : decode zc_Mo_begin 33 = .ok (.aload_n 0, 1) := by decide +kernel
theorem zd_Mo_begin_34 : decode zc_Mo_begin 34 = .ok (.iconst 1, 1) := by decide +kernel
theorem zd_Mo_begin_35 : decode zc_Mo_begin 35 = .ok (.putfield 81, 3) := by decide +kernel
theorem zd_Mo_begin_38 : decode zc_Mo_begin 38 = .ok (.return_, 1) := by decide +kernel
theorem zd_Mo_next_0 : decode zc_Mo_next 0 = .ok (.aload_n 0, 1) := by decide +kernel
theorem zd_Mo_next_1 : decode zc_Mo_next 1 = .ok (.getfield 47, 3) := by decide +kernel
theorem zd_Mo_next_4 : decode zc_Mo_next 4 = .ok (.aload_n 0, 1) := by decide +kernel
theorem zd_Mo_next_5 : decode zc_Mo_next 5 = .ok (.getfield 41, 3) := by decide +kernel
theorem zd_Mo_next_8 : decode zc_Mo_next 8 = .ok (.if_icmp .lt 10, 3) := by decide +kernel
theorem zd_Mo_next_11 : decode zc_Mo_next 11 = .ok (.aload_n 0, 1) := by decide +kernel
theorem zd_Mo_next_12 : decode zc_Mo_next 12 = .ok (.iconst 1, 1) := by decide +kernel
theorem zd_Mo_next_13 : decode zc_Mo_next 13 = .ok (.invokevirtual 50, 3) := by decide +kernel
theorem zd_Mo_next_16 : decode zc_Mo_next 16 = .ok (.iconst 0, 1) := by decide +kernel
theorem zd_Mo_next_17 : decode zc_Mo_next 17 = .ok (.ireturn, 1) := by decide +kernel
theorem zd_Mo_next_18 : decode zc_Mo_next 18 = .ok (.aload_n 0, 1) := by decide +kernel
theorem zd_Mo_next_19 : decode zc_Mo_next 19 = .ok (.dup, 1) := by decide +kernel
theorem zd_Mo_next_20 : decode zc_Mo_next 20 = .ok (.getfield 47, 3) := by decide +kernel
theorem zd_Mo_next_23 : decode zc_Mo_next 23 = .ok (.iconst 1, 1) := by decide +kernel
theorem zd_Mo_next_24 : decode zc_Mo_next 24 = .ok (.iadd, 1) := by decide +kernel
theorem zd_Mo_next_25 : decode zc_Mo_next 25 = .ok (.putfield 47, 3) := by decide +kernel
theorem zd_Mo_next_28 : decode zc_Mo_next 28 = .ok (.aload_n 0, 1) := by decide +kernel
theorem zd_Mo_next_29 : decode zc_Mo_next 29 = .ok (.getfield 22, 3) := by decide +kernel
theorem zd_Mo_next_32 : decode zc_Mo_next 32 = .ok (.aload_n 0, 1) := by decide +kernel
theorem zd_Mo_next_33 : decode zc_Mo_next 33 = .ok (.getfield 47, 3) := by decide +kernel
theorem zd_Mo_next_36 : decode zc_Mo_next 36 = .ok (.iconst 1, 1) := by decide +kernel
theorem zd_Mo_next_37 : decode zc_Mo_next 37 = .ok (.isub, 1) := by decide +kernel
theorem zd_Mo_next_38 : decode zc_Mo_next 38 = .ok (.iaload, 1) := by decide +kernel
theorem zd_Mo_next_39 : decode zc_Mo_next 39 = .ok (.ireturn, 1) := by decide +kernel
theorem zd_Mo_wrong_0 : decode zc_Mo_wrong 0 = .ok (.aload_n 0, 1) := by decide +kernel
theorem zd_Mo_wrong_1 : decode zc_Mo_wrong 1 = .ok (.aload_n 0, 1) := by decide +kernel
theorem zd_Mo_wrong_2 : decode zc_Mo_wrong 2 = .ok (.getfield 44, 3) := by decide +kernel
theorem zd_Mo_wrong_5 : decode zc_Mo_wrong 5 = .ok (.ifCond .ne 7, 3) := by decide +kernel
theorem zd_Mo_wrong_8 : decode zc_Mo_wrong 8 = .ok (.iload_n 1, 1) := by decide +kernel
theorem zd_Mo_wrong_9 : decode zc_Mo_wrong 9 = .ok (.goto 7, 3) := by decide +kernel
theorem zd_Mo_wrong_12 : decode zc_Mo_wrong 12 = .ok (.aload_n 0, 1) := by decide +kernel
theorem zd_Mo_wrong_13 : decode zc_Mo_wrong 13 = .ok (.getfield 44, 3) := by decide +kernel
theorem zd_Mo_wrong_16 : decode zc_Mo_wrong 16 = .ok (.putfield 44, 3) := by decide +kernel
theorem zd_Mo_wrong_19 : decode zc_Mo_wrong 19 = .ok (.return_, 1) := by decide +kernel
theorem zd_Mo_instruction_0 : decode zc_Mo_instruction 0 = .ok (.iload_n 1, 1) := by decide +kernel
theorem zd_Mo_instruction_1 : decode zc_Mo_instruction 1 = .ok (.aload_n 0, 1) := by decide +kernel
theorem zd_Mo_instruction_2 : decode zc_Mo_instruction 2 = .ok (.getfield 7, 3) := by decide +kernel
