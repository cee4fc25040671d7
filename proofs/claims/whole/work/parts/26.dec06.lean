theorem zd_Lp_entry_116 : decode zc_Lp_entry 116 = .ok (.getfield 41, 3) := by decide +kernel
theorem zd_Lp_entry_119 : decode zc_Lp_entry 119 = .ok (.getfield 87, 3) := by decide +kernel
theorem zd_Lp_entry_122 : decode zc_Lp_entry 122 = .ok (.ireturn, 1) := by decide +kernel
theorem zd_Ta_lastAddress_0 : decode zc_Ta_lastAddress 0 = .ok (.aload_n 0, 1) := by decide +kernel
theorem zd_Ta_lastAddress_1 : decode zc_Ta_lastAddress 1 = .ok (.aload_n 0, 1) := by decide +kernel
theorem zd_Ta_lastAddress_2 : decode zc_Ta_lastAddress 2 = .ok (.getfield 15, 3) := by decide +kernel
theorem zd_Ta_lastAddress_5 : decode zc_Ta_lastAddress 5 = .ok (.iconst 1, 1) := by decide +kernel
theorem zd_Ta_lastAddress_6 : decode zc_Ta_lastAddress 6 = .ok (.isub, 1) := by decide +kernel
theorem zd_Ta_lastAddress_7 : decode zc_Ta_lastAddress 7 = .ok (.iconst 0, 1) := by decide +kernel
theorem zd_Ta_lastAddress_8 : decode zc_Ta_lastAddress 8 = .ok (.invokevirtual 19, 3) := by decide +kernel
theorem zd_Ta_lastAddress_11 : decode zc_Ta_lastAddress 11 = .ok (.ireturn, 1) := by decide +kernel
theorem zd_Ta_get_0 : decode zc_Ta_get 0 = .ok (.aload_n 0, 1) := by decide +kernel
theorem zd_Ta_get_1 : decode zc_Ta_get 1 = .ok (.getfield 9, 3) := by decide +kernel
theorem zd_Ta_get_4 : decode zc_Ta_get 4 = .ok (.iload_n 1, 1) := by decide +kernel
theorem zd_Ta_get_5 : decode zc_Ta_get 5 = .ok (.iconst 5, 1) := by decide +kernel
theorem zd_Ta_get_6 : decode zc_Ta_get 6 = .ok (.imul, 1) := by decide +kernel
theorem zd_Ta_get_7 : decode zc_Ta_get 7 = .ok (.iload_n 2, 1) := by decide +kernel
theorem zd_Ta_get_8 : decode zc_Ta_get 8 = .ok (.iadd, 1) := by decide +kernel
theorem zd_Ta_get_9 : decode zc_Ta_get 9 = .ok (.iaload, 1) := by decide +kernel
theorem zd_Ta_get_10 : decode zc_Ta_get 10 = .ok (.ireturn, 1) := by decide +kernel
theorem zd_Ta_append_0 : decode zc_Ta_append 0 = .ok (.aload_n 0, 1) := by decide +kernel
theorem zd_Ta_append_1 : decode zc_Ta_append 1 = .ok (.getfield 15, 3) := by decide +kernel
theorem zd_Ta_append_4 : decode zc_Ta_append 4 = .ok (.iconst 5, 1) := by decide +kernel
theorem zd_Ta_append_5 : decode zc_Ta_append 5 = .ok (.imul, 1) := by decide +kernel
theorem zd_Ta_append_6 : decode zc_Ta_append 6 = .ok (.istore 6, 2) := by decide +kernel
theorem zd_Ta_append_8 : decode zc_Ta_append 8 = .ok (.aload_n 0, 1) := by decide +kernel
theorem zd_Ta_append_9 : decode zc_Ta_append 9 = .ok (.getfield 9, 3) := by decide +kernel
theorem zd_Ta_append_12 : decode zc_Ta_append 12 = .ok (.iload 6, 2) := by decide +kernel
theorem zd_Ta_append_14 : decode zc_Ta_append 14 = .ok (.iconst 0, 1) := by decide +kernel
theorem zd_Ta_append_15 : decode zc_Ta_append 15 = .ok (.iadd, 1) := by decide +kernel
theorem zd_Ta_append_16 : decode zc_Ta_append 16 = .ok (.iload_n 1, 1) := by decide +kernel
theorem zd_Ta_append_17 : decode zc_Ta_append 17 = .ok (.iastore, 1) := by decide +kernel
theorem zd_Ta_append_18 : decode zc_Ta_append 18 = .ok (.aload_n 0, 1) := by decide +kernel
theorem zd_Ta_append_19 : decode zc_Ta_append 19 = .ok (.getfield 9, 3) := by decide +kernel
theorem zd_Ta_append_22 : decode zc_Ta_append 22 = .ok (.iload 6, 2) := by decide +kernel
theorem zd_Ta_append_24 : decode zc_Ta_append 24 = .ok (.iconst 1, 1) := by decide +kernel
theorem zd_Ta_append_25 : decode zc_Ta_append 25 = .ok (.iadd, 1) := by decide +kernel
theorem zd_Ta_append_26 : decode zc_Ta_append 26 = .ok (.iload_n 2, 1) := by decide +kernel
theorem zd_Ta_append_27 : decode zc_Ta_append 27 = .ok (.iastore, 1) := by decide +kernel
theorem zd_Ta_append_28 : decode zc_Ta_append 28 = .ok (.aload_n 0, 1) := by decide +kernel
theorem zd_Ta_append_29 : decode zc_Ta_append 29 = .ok (.getfield 9, 3) := by decide +kernel
theorem zd_Ta_append_32 : decode zc_Ta_append 32 = .ok (.iload 6, 2) := by decide +kernel
theorem zd_Ta_append_34 : decode zc_Ta_append 34 = .ok (.iconst 2, 1) := by decide +kernel
theorem zd_Ta_append_35 : decode zc_Ta_append 35 = .ok (.iadd, 1) := by decide +kernel
theorem zd_Ta_append_36 : decode zc_Ta_append 36 = .ok (.iload_n 3, 1) := by decide +kernel
theorem zd_Ta_append_37 : decode zc_Ta_append 37 = .ok (.iastore, 1) := by decide +kernel
theorem zd_Ta_append_38 : decode zc_Ta_append 38 = .ok (.aload_n 0, 1) := by decide +kernel
theorem zd_Ta_append_39 : decode zc_Ta_append 39 = .ok (.getfield 9, 3) := by decide +kernel
theorem zd_Ta_append_42 : decode zc_Ta_append 42 = .ok (.iload 6, 2) := by decide +kernel
theorem zd_Ta_append_44 : decode zc_Ta_append 44 = .ok (.iconst 3, 1) := by decide +kernel
theorem zd_Ta_append_45 : decode zc_Ta_append 45 = .ok (.iadd, 1) := by decide +kernel
theorem zd_Ta_append_46 : decode zc_Ta_append 46 = .ok (.iload 4, 2) := by decide +kernel
theorem zd_Ta_append_48 : decode zc_Ta_append 48 = .ok (.iastore, 1) := by decide +kernel
theorem zd_Ta_append_49 : decode zc_Ta_append 49 = .ok (.aload_n 0, 1) := by decide +kernel
theorem zd_Ta_append_50 : decode zc_Ta_append 50 = .ok (.getfield 9, 3) := by decide +kernel
theorem zd_Ta_append_53 : decode zc_Ta_append 53 = .ok (.iload 6, 2) := by decide +kernel
theorem zd_Ta_append_55 : decode zc_Ta_append 55 = .ok (.iconst 4, 1) := by decide +kernel
theorem zd_Ta_append_56 : decode zc_Ta_append 56 = .ok (.iadd, 1) := by decide +kernel
theorem zd_Ta_append_57 : decode zc_Ta_append 57 = .ok (.iload 5, 2) := by decide +kernel
theorem zd_Ta_append_59 : decode zc_Ta_append 59 = .ok (.iastore, 1) := by decide +kernel
theorem zd_Ta_append_60 : decode zc_Ta_append 60 = .ok (.aload_n 0, 1) := by decide +kernel
theorem zd_Ta_append_61 : decode zc_Ta_append 61 = .ok (.dup, 1) := by decide +kernel
theorem zd_Ta_append_62 : decode zc_Ta_append 62 = .ok (.getfield 15, 3) := by decide +kernel
theorem zd_Ta_append_65 : decode zc_Ta_append 65 = .ok (.iconst 1, 1) := by decide +kernel
theorem zd_Ta_append_66 : decode zc_Ta_append 66 = .ok (.iadd, 1) := by decide +kernel
theorem zd_Ta_append_67 : decode zc_Ta_append 67 = .ok (.putfield 15, 3) := by decide +kernel
theorem zd_Ta_append_70 : decode zc_Ta_append 70 = .ok (.return_, 1) := by decide +kernel
theorem zd_Lp_write_0 : decode zc_Lp_write 0 = .ok (.aload_n 0, 1) := by decide +kernel
theorem zd_Lp_write_1 : decode zc_Lp_write 1 = .ok (.getfield 41, 3) := by decide +kernel
theorem zd_Lp_write_4 : decode zc_Lp_write 4 = .ok (.getfield 87, 3) := by decide +kernel
theorem zd_Lp_write_7 : decode zc_Lp_write 7 = .ok (.ifCond .ne 13, 3) := by decide +kernel
theorem zd_Lp_write_10 : decode zc_Lp_write 10 = .ok (.new 102, 3) := by decide +kernel
theorem zd_Lp_write_13 : decode zc_Lp_write 13 = .ok (.dup, 1) := by decide +kernel
theorem zd_Lp_write_14 : decode zc_Lp_write 14 = .ok (.ldc 104, 2) := by decide +kernel
theorem zd_Lp_write_16 : decode zc_Lp_write 16 = .ok (.invokespecial 106, 3) := by decide +kernel
theorem zd_Lp_write_19 : decode zc_Lp_write 19 = .ok (.athrow, 1) := by decide +kernel
theorem zd_Lp_write_20 : decode zc_Lp_write 20 = .ok (.iload_n 1, 1) := by decide +kernel
theorem zd_Lp_write_21 : decode zc_Lp_write 21 = .ok (.aload_n 0, 1) := by decide +kernel
theorem zd_Lp_write_22 : decode zc_Lp_write 22 = .ok (.getfield 41, 3) := by decide +kernel
theorem zd_Lp_write_25 : decode zc_Lp_write 25 = .ok (.invokevirtual 88, 3) := by decide +kernel
theorem zd_Lp_write_28 : decode zc_Lp_write 28 = .ok (.if_icmp .ge 13, 3) := by decide +kernel
theorem zd_Lp_write_31 : decode zc_Lp_write 31 = .ok (.new 80, 3) := by decide +kernel
theorem zd_Lp_write_34 : decode zc_Lp_write 34 = .ok (.dup, 1) := by decide +kernel
theorem zd_Lp_write_35 : decode zc_Lp_write 35 = .ok (.ldc 107, 2) := by decide +kernel
theorem zd_Lp_write_37 : decode zc_Lp_write 37 = .ok (.invokespecial 84, 3) := by decide +kernel
theorem zd_Lp_write_40 : decode zc_Lp_write 40 = .ok (.athrow, 1) := by decide +kernel
theorem zd_Lp_write_41 : decode zc_Lp_write 41 = .ok (.aload_n 0, 1) := by decide +kernel
theorem zd_Lp_write_42 : decode zc_Lp_write 42 = .ok (.getfield 25, 3) := by decide +kernel
theorem zd_Lp_write_45 : decode zc_Lp_write 45 = .ok (.iconst 0, 1) := by decide +kernel
theorem zd_Lp_write_46 : decode zc_Lp_write 46 = .ok (.putfield 53, 3) := by decide +kernel
theorem zd_Lp_write_49 : decode zc_Lp_write 49 = .ok (.new 109, 3) := by decide +kernel
theorem zd_Lp_write_52 : decode zc_Lp_write 52 = .ok (.dup, 1) := by decide +kernel
theorem zd_Lp_write_53 : decode zc_Lp_write 53 = .ok (.aload_n 0, 1) := by decide +kernel
theorem zd_Lp_write_54 : decode zc_Lp_write 54 = .ok (.getfield 12, 3) := by decide +kernel
theorem zd_Lp_write_57 : decode zc_Lp_write 57 = .ok (.aload_n 0, 1) := by decide +kernel
theorem zd_Lp_write_58 : decode zc_Lp_write 58 = .ok (.getfield 25, 3) := by decide +kernel
theorem zd_Lp_write_61 : decode zc_Lp_write 61 = .ok (.invokespecial 111, 3) := by decide +kernel
theorem zd_Lp_write_64 : decode zc_Lp_write 64 = .ok (.aload_n 0, 1) := by decide +kernel
theorem zd_Lp_write_65 : decode zc_Lp_write 65 = .ok (.getfield 41, 3) := by decide +kernel
theorem zd_Lp_write_68 : decode zc_Lp_write 68 = .ok (.iload_n 1, 1) := by decide +kernel
theorem zd_Lp_write_69 : decode zc_Lp_write 69 = .ok (.invokevirtual 114, 3) := by decide +kernel
theorem zd_Lp_write_72 : decode zc_Lp_write 72 = .ok (.aload_n 0, 1) := by decide +kernel
theorem zd_Lp_write_73 : decode zc_Lp_write 73 = .ok (.getfield 21, 3) := by decide +kernel
theorem zd_Lp_write_76 : decode zc_Lp_write 76 = .ok (.astore_n 2, 1) := by decide +kernel
theorem zd_Lp_write_77 : decode zc_Lp_write 77 = .ok (.aload_n 0, 1) := by decide +kernel
theorem zd_Lp_write_78 : decode zc_Lp_write 78 = .ok (.aload_n 0, 1) := by decide +kernel
theorem zd_Lp_write_79 : decode zc_Lp_write 79 = .ok (.getfield 25, 3) := by decide +kernel
theorem zd_Lp_write_82 : decode zc_Lp_write 82 = .ok (.putfield 21, 3) := by decide +kernel
theorem zd_Lp_write_85 : decode zc_Lp_write 85 = .ok (.aload_n 0, 1) := by decide +kernel
theorem zd_Lp_write_86 : decode zc_Lp_write 86 = .ok (.aload_n 2, 1) := by decide +kernel
theorem zd_Lp_write_87 : decode zc_Lp_write 87 = .ok (.putfield 25, 3) := by decide +kernel
theorem zd_Lp_write_90 : decode zc_Lp_write 90 = .ok (.aload_n 0, 1) := by decide +kernel
theorem zd_Lp_write_91 : decode zc_Lp_write 91 = .ok (.getfield 41, 3) := by decide +kernel
theorem zd_Lp_write_94 : decode zc_Lp_write 94 = .ok (.iconst 0, 1) := by decide +kernel
theorem zd_Lp_write_95 : decode zc_Lp_write 95 = .ok (.putfield 87, 3) := by decide +kernel
theorem zd_Lp_write_98 : decode zc_Lp_write 98 = .ok (.aload_n 0, 1) := by decide +kernel
theorem zd_Lp_write_99 : decode zc_Lp_write 99 = .ok (.getfield 21, 3) := by decide +kernel
theorem zd_Lp_write_102 : decode zc_Lp_write 102 = .ok (.getfield 53, 3) := by decide +kernel
theorem zd_Lp_write_105 : decode zc_Lp_write 105 = .ok (.ireturn, 1) := by decide +kernel
theorem zd_Wr_init_0 : decode zc_Wr_init 0 = .ok (.aload_n 0, 1) := by decide +kernel
theorem zd_Wr_init_1 : decode zc_Wr_init 1 = .ok (.invokespecial 3, 3) := by decide +kernel
theorem zd_Wr_init_4 : decode zc_Wr_init 4 = .ok (.aload_n 0, 1) := by decide +kernel
theorem zd_Wr_init_5 : decode zc_Wr_init 5 = .ok (.iconst 0, 1) := by decide +kernel
theorem zd_Wr_init_6 : decode zc_Wr_init 6 = .ok (.putfield 9, 3) := by decide +kernel
theorem zd_Wr_init_9 : decode zc_Wr_init 9 = .ok (.aload_n 0, 1) := by decide +kernel
theorem zd_Wr_init_10 : decode zc_Wr_init 10 = .ok (.iconst 1, 1) := by decide +kernel
theorem zd_Wr_init_11 : decode zc_Wr_init 11 = .ok (.putfield 15, 3) := by decide +kernel
theorem zd_Wr_init_14 : decode zc_Wr_init 14 = .ok (.aload_n 0, 1) := by decide +kernel
theorem zd_Wr_init_15 : decode zc_Wr_init 15 = .ok (.iconst 1, 1) := by decide +kernel
theorem zd_Wr_init_16 : decode zc_Wr_init 16 = .ok (.putfield 18, 3) := by decide +kernel
theorem zd_Wr_init_19 : decode zc_Wr_init 19 = .ok (.aload_n 0, 1) := by decide +kernel
theorem zd_Wr_init_20 : decode zc_Wr_init 20 = .ok (.iconst 0, 1) := by decide +kernel
theorem zd_Wr_init_21 : decode zc_Wr_init 21 = .ok (.putfield 21, 3) := by decide +kernel
theorem zd_Wr_init_24 : decode zc_Wr_init 24 = .ok (.aload_n 0, 1) := by decide +kernel
theorem zd_Wr_init_25 : decode zc_Wr_init 25 = .ok (.aload_n 1, 1) := by decide +kernel
theorem zd_Wr_init_26 : decode zc_Wr_init 26 = .ok (.putfield 24, 3) := by decide +kernel
theorem zd_Wr_init_29 : decode zc_Wr_init 29 = .ok (.aload_n 0, 1) := by decide +kernel
theorem zd_Wr_init_30 : decode zc_Wr_init 30 = .ok (.aload_n 2, 1) := by decide +kernel
theorem zd_Wr_init_31 : decode zc_Wr_init 31 = .ok (.putfield 28, 3) := by decide +kernel
theorem zd_Wr_init_34 : decode zc_Wr_init 34 = .ok (.aload_n 0, 1) := by decide +kernel
theorem zd_Wr_init_35 : decode zc_Wr_init 35 = .ok (.aload_n 1, 1) := by decide +kernel
theorem zd_Wr_init_36 : decode zc_Wr_init 36 = .ok (.getfield 32, 3) := by decide +kernel
theorem zd_Wr_init_39 : decode zc_Wr_init 39 = .ok (.putfield 37, 3) := by decide +kernel
theorem zd_Wr_init_42 : decode zc_Wr_init 42 = .ok (.return_, 1) := by decide +kernel
theorem zd_Wr_writeAll_0 : decode zc_Wr_writeAll 0 = .ok (.aload_n 0, 1) := by decide +kernel
theorem zd_Wr_writeAll_1 : decode zc_Wr_writeAll 1 = .ok (.aload_n 1, 1) := by decide +kernel
theorem zd_Wr_writeAll_2 : decode zc_Wr_writeAll 2 = .ok (.iconst 0, 1) := by decide +kernel
theorem zd_Wr_writeAll_3 : decode zc_Wr_writeAll 3 = .ok (.iconst 0, 1) := by decide +kernel
theorem zd_Wr_writeAll_4 : decode zc_Wr_writeAll 4 = .ok (.invokevirtual 40, 3) := by decide +kernel
theorem zd_Wr_writeAll_7 : decode zc_Wr_writeAll 7 = .ok (.invokevirtual 46, 3) := by decide +kernel
