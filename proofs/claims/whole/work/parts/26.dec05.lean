theorem zd_Re_nextNumber_72 : decode zc_Re_nextNumber 72 = .ok (.imul, 1) := by decide +kernel
theorem zd_Re_nextNumber_73 : decode zc_Re_nextNumber 73 = .ok (.lshl, 1) := by decide +kernel
theorem zd_Re_nextNumber_74 : decode zc_Re_nextNumber 74 = .ok (.lsub, 1) := by decide +kernel
theorem zd_Re_nextNumber_75 : decode zc_Re_nextNumber 75 = .ok (.goto 4, 3) := by decide +kernel
theorem zd_Re_nextNumber_78 : decode zc_Re_nextNumber 78 = .ok (.lload_n 2, 1) := by decide +kernel
theorem zd_Re_nextNumber_79 : decode zc_Re_nextNumber 79 = .ok (.invokestatic 45, 3) := by decide +kernel
theorem zd_Re_nextNumber_82 : decode zc_Re_nextNumber 82 = .ok (.ireturn, 1) := by decide +kernel
theorem zd_Re_nextNumber_83 : decode zc_Re_nextNumber 83 = .ok (.iinc 4 1, 3) := by decide +kernel
theorem zd_Re_nextNumber_86 : decode zc_Re_nextNumber 86 = .ok (.goto (-81), 3) := by decide +kernel
theorem zd_Re_nextNumber_89 : decode zc_Re_nextNumber 89 = .ok (.new 49, 3) := by decide +kernel
theorem zd_Re_nextNumber_92 : decode zc_Re_nextNumber 92 = .ok (.dup, 1) := by decide +kernel
theorem zd_Re_nextNumber_93 : decode zc_Re_nextNumber 93 = .ok (.ldc 51, 2) := by decide +kernel
theorem zd_Re_nextNumber_95 : decode zc_Re_nextNumber 95 = .ok (.invokespecial 53, 3) := by decide +kernel
theorem zd_Re_nextNumber_98 : decode zc_Re_nextNumber 98 = .ok (.athrow, 1) := by decide +kernel
theorem zd_Re_fitting_0 : decode zc_Re_fitting 0 = .ok (.lload_n 0, 1) := by decide +kernel
theorem zd_Re_fitting_1 : decode zc_Re_fitting 1 = .ok (.ldc2_w 54, 3) := by decide +kernel
theorem zd_Re_fitting_4 : decode zc_Re_fitting 4 = .ok (.lcmp, 1) := by decide +kernel
theorem zd_Re_fitting_5 : decode zc_Re_fitting 5 = .ok (.ifCond .lt 11, 3) := by decide +kernel
theorem zd_Re_fitting_8 : decode zc_Re_fitting 8 = .ok (.lload_n 0, 1) := by decide +kernel
theorem zd_Re_fitting_9 : decode zc_Re_fitting 9 = .ok (.ldc2_w 56, 3) := by decide +kernel
theorem zd_Re_fitting_12 : decode zc_Re_fitting 12 = .ok (.lcmp, 1) := by decide +kernel
theorem zd_Re_fitting_13 : decode zc_Re_fitting 13 = .ok (.ifCond .le 13, 3) := by decide +kernel
theorem zd_Re_fitting_16 : decode zc_Re_fitting 16 = .ok (.new 49, 3) := by decide +kernel
theorem zd_Re_fitting_19 : decode zc_Re_fitting 19 = .ok (.dup, 1) := by decide +kernel
theorem zd_Re_fitting_20 : decode zc_Re_fitting 20 = .ok (.ldc 58, 2) := by decide +kernel
theorem zd_Re_fitting_22 : decode zc_Re_fitting 22 = .ok (.invokespecial 53, 3) := by decide +kernel
theorem zd_Re_fitting_25 : decode zc_Re_fitting 25 = .ok (.athrow, 1) := by decide +kernel
theorem zd_Re_fitting_26 : decode zc_Re_fitting 26 = .ok (.lload_n 0, 1) := by decide +kernel
theorem zd_Re_fitting_27 : decode zc_Re_fitting 27 = .ok (.l2i, 1) := by decide +kernel
theorem zd_Re_fitting_28 : decode zc_Re_fitting 28 = .ok (.ireturn, 1) := by decide +kernel
theorem zd_Ma_needLength_0 : decode zc_Ma_needLength 0 = .ok (.iload_n 0, 1) := by decide +kernel
theorem zd_Ma_needLength_1 : decode zc_Ma_needLength 1 = .ok (.iload_n 1, 1) := by decide +kernel
theorem zd_Ma_needLength_2 : decode zc_Ma_needLength 2 = .ok (.if_icmp .eq 13, 3) := by decide +kernel
theorem zd_Ma_needLength_5 : decode zc_Ma_needLength 5 = .ok (.new 123, 3) := by decide +kernel
theorem zd_Ma_needLength_8 : decode zc_Ma_needLength 8 = .ok (.dup, 1) := by decide +kernel
theorem zd_Ma_needLength_9 : decode zc_Ma_needLength 9 = .ok (.ldc 143, 2) := by decide +kernel
theorem zd_Ma_needLength_11 : decode zc_Ma_needLength 11 = .ok (.invokespecial 127, 3) := by decide +kernel
theorem zd_Ma_needLength_14 : decode zc_Ma_needLength 14 = .ok (.athrow, 1) := by decide +kernel
theorem zd_Ma_needLength_15 : decode zc_Ma_needLength 15 = .ok (.return_, 1) := by decide +kernel
theorem zd_Re_nextFixed_0 : decode zc_Re_nextFixed 0 = .ok (.lconst 0, 1) := by decide +kernel
theorem zd_Re_nextFixed_1 : decode zc_Re_nextFixed 1 = .ok (.lstore_n 2, 1) := by decide +kernel
theorem zd_Re_nextFixed_2 : decode zc_Re_nextFixed 2 = .ok (.iconst 0, 1) := by decide +kernel
theorem zd_Re_nextFixed_3 : decode zc_Re_nextFixed 3 = .ok (.istore 4, 2) := by decide +kernel
theorem zd_Re_nextFixed_5 : decode zc_Re_nextFixed 5 = .ok (.iload 4, 2) := by decide +kernel
theorem zd_Re_nextFixed_7 : decode zc_Re_nextFixed 7 = .ok (.iload_n 1, 1) := by decide +kernel
theorem zd_Re_nextFixed_8 : decode zc_Re_nextFixed 8 = .ok (.if_icmp .ge 23, 3) := by decide +kernel
theorem zd_Re_nextFixed_11 : decode zc_Re_nextFixed 11 = .ok (.lload_n 2, 1) := by decide +kernel
theorem zd_Re_nextFixed_12 : decode zc_Re_nextFixed 12 = .ok (.aload_n 0, 1) := by decide +kernel
theorem zd_Re_nextFixed_13 : decode zc_Re_nextFixed 13 = .ok (.invokevirtual 39, 3) := by decide +kernel
theorem zd_Re_nextFixed_16 : decode zc_Re_nextFixed 16 = .ok (.i2l, 1) := by decide +kernel
theorem zd_Re_nextFixed_17 : decode zc_Re_nextFixed 17 = .ok (.bipush 8, 2) := by decide +kernel
theorem zd_Re_nextFixed_19 : decode zc_Re_nextFixed 19 = .ok (.iload 4, 2) := by decide +kernel
theorem zd_Re_nextFixed_21 : decode zc_Re_nextFixed 21 = .ok (.imul, 1) := by decide +kernel
theorem zd_Re_nextFixed_22 : decode zc_Re_nextFixed 22 = .ok (.lshl, 1) := by decide +kernel
theorem zd_Re_nextFixed_23 : decode zc_Re_nextFixed 23 = .ok (.lor, 1) := by decide +kernel
theorem zd_Re_nextFixed_24 : decode zc_Re_nextFixed 24 = .ok (.lstore_n 2, 1) := by decide +kernel
theorem zd_Re_nextFixed_25 : decode zc_Re_nextFixed 25 = .ok (.iinc 4 1, 3) := by decide +kernel
theorem zd_Re_nextFixed_28 : decode zc_Re_nextFixed 28 = .ok (.goto (-23), 3) := by decide +kernel
theorem zd_Re_nextFixed_31 : decode zc_Re_nextFixed 31 = .ok (.lload_n 2, 1) := by decide +kernel
theorem zd_Re_nextFixed_32 : decode zc_Re_nextFixed 32 = .ok (.lreturn, 1) := by decide +kernel
theorem zd_Re_skip_0 : decode zc_Re_skip 0 = .ok (.aload_n 0, 1) := by decide +kernel
theorem zd_Re_skip_1 : decode zc_Re_skip 1 = .ok (.dup, 1) := by decide +kernel
theorem zd_Re_skip_2 : decode zc_Re_skip 2 = .ok (.getfield 9, 3) := by decide +kernel
theorem zd_Re_skip_5 : decode zc_Re_skip 5 = .ok (.iload_n 1, 1) := by decide +kernel
theorem zd_Re_skip_6 : decode zc_Re_skip 6 = .ok (.iadd, 1) := by decide +kernel
theorem zd_Re_skip_7 : decode zc_Re_skip 7 = .ok (.putfield 9, 3) := by decide +kernel
theorem zd_Re_skip_10 : decode zc_Re_skip 10 = .ok (.return_, 1) := by decide +kernel
theorem zd_Re_nextSigned_0 : decode zc_Re_nextSigned 0 = .ok (.aload_n 0, 1) := by decide +kernel
theorem zd_Re_nextSigned_1 : decode zc_Re_nextSigned 1 = .ok (.iconst 1, 1) := by decide +kernel
theorem zd_Re_nextSigned_2 : decode zc_Re_nextSigned 2 = .ok (.invokevirtual 35, 3) := by decide +kernel
theorem zd_Re_nextSigned_5 : decode zc_Re_nextSigned 5 = .ok (.ireturn, 1) := by decide +kernel
theorem zd_Lp_row_0 : decode zc_Lp_row 0 = .ok (.iload_n 1, 1) := by decide +kernel
theorem zd_Lp_row_1 : decode zc_Lp_row 1 = .ok (.ifCond .lt 24, 3) := by decide +kernel
theorem zd_Lp_row_4 : decode zc_Lp_row 4 = .ok (.iload_n 1, 1) := by decide +kernel
theorem zd_Lp_row_5 : decode zc_Lp_row 5 = .ok (.aload_n 0, 1) := by decide +kernel
theorem zd_Lp_row_6 : decode zc_Lp_row 6 = .ok (.getfield 31, 3) := by decide +kernel
theorem zd_Lp_row_9 : decode zc_Lp_row 9 = .ok (.getfield 61, 3) := by decide +kernel
theorem zd_Lp_row_12 : decode zc_Lp_row 12 = .ok (.if_icmp .ge 13, 3) := by decide +kernel
theorem zd_Lp_row_15 : decode zc_Lp_row 15 = .ok (.iload_n 2, 1) := by decide +kernel
theorem zd_Lp_row_16 : decode zc_Lp_row 16 = .ok (.ifCond .lt 9, 3) := by decide +kernel
theorem zd_Lp_row_19 : decode zc_Lp_row 19 = .ok (.iload_n 2, 1) := by decide +kernel
theorem zd_Lp_row_20 : decode zc_Lp_row 20 = .ok (.bipush 7, 2) := by decide +kernel
theorem zd_Lp_row_22 : decode zc_Lp_row 22 = .ok (.if_icmp .lt 13, 3) := by decide +kernel
theorem zd_Lp_row_25 : decode zc_Lp_row 25 = .ok (.new 70, 3) := by decide +kernel
theorem zd_Lp_row_28 : decode zc_Lp_row 28 = .ok (.dup, 1) := by decide +kernel
theorem zd_Lp_row_29 : decode zc_Lp_row 29 = .ok (.ldc 72, 2) := by decide +kernel
theorem zd_Lp_row_31 : decode zc_Lp_row 31 = .ok (.invokespecial 74, 3) := by decide +kernel
theorem zd_Lp_row_34 : decode zc_Lp_row 34 = .ok (.athrow, 1) := by decide +kernel
theorem zd_Lp_row_35 : decode zc_Lp_row 35 = .ok (.aload_n 0, 1) := by decide +kernel
theorem zd_Lp_row_36 : decode zc_Lp_row 36 = .ok (.getfield 31, 3) := by decide +kernel
theorem zd_Lp_row_39 : decode zc_Lp_row 39 = .ok (.iload_n 1, 1) := by decide +kernel
theorem zd_Lp_row_40 : decode zc_Lp_row 40 = .ok (.iload_n 2, 1) := by decide +kernel
theorem zd_Lp_row_41 : decode zc_Lp_row 41 = .ok (.invokevirtual 77, 3) := by decide +kernel
theorem zd_Lp_row_44 : decode zc_Lp_row 44 = .ok (.ireturn, 1) := by decide +kernel
theorem zd_Lp_entry_0 : decode zc_Lp_entry 0 = .ok (.iload_n 1, 1) := by decide +kernel
theorem zd_Lp_entry_1 : decode zc_Lp_entry 1 = .ok (.ifCond .lt 16, 3) := by decide +kernel
theorem zd_Lp_entry_4 : decode zc_Lp_entry 4 = .ok (.iload_n 2, 1) := by decide +kernel
theorem zd_Lp_entry_5 : decode zc_Lp_entry 5 = .ok (.ifCond .lt 12, 3) := by decide +kernel
theorem zd_Lp_entry_8 : decode zc_Lp_entry 8 = .ok (.iload_n 3, 1) := by decide +kernel
theorem zd_Lp_entry_9 : decode zc_Lp_entry 9 = .ok (.ifCond .lt 8, 3) := by decide +kernel
theorem zd_Lp_entry_12 : decode zc_Lp_entry 12 = .ok (.iload 4, 2) := by decide +kernel
theorem zd_Lp_entry_14 : decode zc_Lp_entry 14 = .ok (.ifCond .ge 13, 3) := by decide +kernel
theorem zd_Lp_entry_17 : decode zc_Lp_entry 17 = .ok (.new 80, 3) := by decide +kernel
theorem zd_Lp_entry_20 : decode zc_Lp_entry 20 = .ok (.dup, 1) := by decide +kernel
theorem zd_Lp_entry_21 : decode zc_Lp_entry 21 = .ok (.ldc 82, 2) := by decide +kernel
theorem zd_Lp_entry_23 : decode zc_Lp_entry 23 = .ok (.invokespecial 84, 3) := by decide +kernel
theorem zd_Lp_entry_26 : decode zc_Lp_entry 26 = .ok (.athrow, 1) := by decide +kernel
theorem zd_Lp_entry_27 : decode zc_Lp_entry 27 = .ok (.iload 5, 2) := by decide +kernel
theorem zd_Lp_entry_29 : decode zc_Lp_entry 29 = .ok (.ifCond .eq 19, 3) := by decide +kernel
theorem zd_Lp_entry_32 : decode zc_Lp_entry 32 = .ok (.iload 5, 2) := by decide +kernel
theorem zd_Lp_entry_34 : decode zc_Lp_entry 34 = .ok (.iconst 1, 1) := by decide +kernel
theorem zd_Lp_entry_35 : decode zc_Lp_entry 35 = .ok (.if_icmp .eq 13, 3) := by decide +kernel
theorem zd_Lp_entry_38 : decode zc_Lp_entry 38 = .ok (.new 80, 3) := by decide +kernel
theorem zd_Lp_entry_41 : decode zc_Lp_entry 41 = .ok (.dup, 1) := by decide +kernel
theorem zd_Lp_entry_42 : decode zc_Lp_entry 42 = .ok (.ldc 85, 2) := by decide +kernel
theorem zd_Lp_entry_44 : decode zc_Lp_entry 44 = .ok (.invokespecial 84, 3) := by decide +kernel
theorem zd_Lp_entry_47 : decode zc_Lp_entry 47 = .ok (.athrow, 1) := by decide +kernel
theorem zd_Lp_entry_48 : decode zc_Lp_entry 48 = .ok (.aload_n 0, 1) := by decide +kernel
theorem zd_Lp_entry_49 : decode zc_Lp_entry 49 = .ok (.getfield 41, 3) := by decide +kernel
theorem zd_Lp_entry_52 : decode zc_Lp_entry 52 = .ok (.getfield 87, 3) := by decide +kernel
theorem zd_Lp_entry_55 : decode zc_Lp_entry 55 = .ok (.ifCond .le 24, 3) := by decide +kernel
theorem zd_Lp_entry_58 : decode zc_Lp_entry 58 = .ok (.iload_n 1, 1) := by decide +kernel
theorem zd_Lp_entry_59 : decode zc_Lp_entry 59 = .ok (.aload_n 0, 1) := by decide +kernel
theorem zd_Lp_entry_60 : decode zc_Lp_entry 60 = .ok (.getfield 41, 3) := by decide +kernel
theorem zd_Lp_entry_63 : decode zc_Lp_entry 63 = .ok (.invokevirtual 88, 3) := by decide +kernel
theorem zd_Lp_entry_66 : decode zc_Lp_entry 66 = .ok (.if_icmp .gt 13, 3) := by decide +kernel
theorem zd_Lp_entry_69 : decode zc_Lp_entry 69 = .ok (.new 80, 3) := by decide +kernel
theorem zd_Lp_entry_72 : decode zc_Lp_entry 72 = .ok (.dup, 1) := by decide +kernel
theorem zd_Lp_entry_73 : decode zc_Lp_entry 73 = .ok (.ldc 92, 2) := by decide +kernel
theorem zd_Lp_entry_75 : decode zc_Lp_entry 75 = .ok (.invokespecial 84, 3) := by decide +kernel
theorem zd_Lp_entry_78 : decode zc_Lp_entry 78 = .ok (.athrow, 1) := by decide +kernel
theorem zd_Lp_entry_79 : decode zc_Lp_entry 79 = .ok (.aload_n 0, 1) := by decide +kernel
theorem zd_Lp_entry_80 : decode zc_Lp_entry 80 = .ok (.getfield 41, 3) := by decide +kernel
theorem zd_Lp_entry_83 : decode zc_Lp_entry 83 = .ok (.getfield 87, 3) := by decide +kernel
theorem zd_Lp_entry_86 : decode zc_Lp_entry 86 = .ok (.bipush 60, 2) := by decide +kernel
theorem zd_Lp_entry_88 : decode zc_Lp_entry 88 = .ok (.if_icmp .lt 13, 3) := by decide +kernel
theorem zd_Lp_entry_91 : decode zc_Lp_entry 91 = .ok (.new 94, 3) := by decide +kernel
theorem zd_Lp_entry_94 : decode zc_Lp_entry 94 = .ok (.dup, 1) := by decide +kernel
theorem zd_Lp_entry_95 : decode zc_Lp_entry 95 = .ok (.ldc 96, 2) := by decide +kernel
theorem zd_Lp_entry_97 : decode zc_Lp_entry 97 = .ok (.invokespecial 98, 3) := by decide +kernel
theorem zd_Lp_entry_100 : decode zc_Lp_entry 100 = .ok (.athrow, 1) := by decide +kernel
theorem zd_Lp_entry_101 : decode zc_Lp_entry 101 = .ok (.aload_n 0, 1) := by decide +kernel
theorem zd_Lp_entry_102 : decode zc_Lp_entry 102 = .ok (.getfield 41, 3) := by decide +kernel
theorem zd_Lp_entry_105 : decode zc_Lp_entry 105 = .ok (.iload_n 1, 1) := by decide +kernel
theorem zd_Lp_entry_106 : decode zc_Lp_entry 106 = .ok (.iload_n 2, 1) := by decide +kernel
theorem zd_Lp_entry_107 : decode zc_Lp_entry 107 = .ok (.iload_n 3, 1) := by decide +kernel
theorem zd_Lp_entry_108 : decode zc_Lp_entry 108 = .ok (.iload 4, 2) := by decide +kernel
theorem zd_Lp_entry_110 : decode zc_Lp_entry 110 = .ok (.iload 5, 2) := by decide +kernel
theorem zd_Lp_entry_112 : decode zc_Lp_entry 112 = .ok (.invokevirtual 99, 3) := by decide +kernel
theorem zd_Lp_entry_115 : decode zc_Lp_entry 115 = .ok (.aload_n 0, 1) := by decide +kernel
