theorem zd_Lp_byteAt_4 : decode zc_Lp_byteAt 4 = .ok (.iload_n 1, 1) := by decide +kernel
theorem zd_Lp_byteAt_5 : decode zc_Lp_byteAt 5 = .ok (.aload_n 0, 1) := by decide +kernel
theorem zd_Lp_byteAt_6 : decode zc_Lp_byteAt 6 = .ok (.getfield 21, 3) := by decide +kernel
theorem zd_Lp_byteAt_9 : decode zc_Lp_byteAt 9 = .ok (.getfield 53, 3) := by decide +kernel
theorem zd_Lp_byteAt_12 : decode zc_Lp_byteAt 12 = .ok (.if_icmp .ge 14, 3) := by decide +kernel
theorem zd_Lp_byteAt_15 : decode zc_Lp_byteAt 15 = .ok (.aload_n 0, 1) := by decide +kernel
theorem zd_Lp_byteAt_16 : decode zc_Lp_byteAt 16 = .ok (.getfield 21, 3) := by decide +kernel
theorem zd_Lp_byteAt_19 : decode zc_Lp_byteAt 19 = .ok (.iload_n 1, 1) := by decide +kernel
theorem zd_Lp_byteAt_20 : decode zc_Lp_byteAt 20 = .ok (.invokevirtual 57, 3) := by decide +kernel
theorem zd_Lp_byteAt_23 : decode zc_Lp_byteAt 23 = .ok (.goto 4, 3) := by decide +kernel
theorem zd_Lp_byteAt_26 : decode zc_Lp_byteAt 26 = .ok (.iconst (-1), 1) := by decide +kernel
theorem zd_Lp_byteAt_27 : decode zc_Lp_byteAt 27 = .ok (.ireturn, 1) := by decide +kernel
theorem zd_By_get_0 : decode zc_By_get 0 = .ok (.aload_n 0, 1) := by decide +kernel
theorem zd_By_get_1 : decode zc_By_get 1 = .ok (.getfield 9, 3) := by decide +kernel
theorem zd_By_get_4 : decode zc_By_get 4 = .ok (.iload_n 1, 1) := by decide +kernel
theorem zd_By_get_5 : decode zc_By_get 5 = .ok (.iaload, 1) := by decide +kernel
theorem zd_By_get_6 : decode zc_By_get 6 = .ok (.ireturn, 1) := by decide +kernel
theorem zd_Lp_find_0 : decode zc_Lp_find 0 = .ok (.iconst 0, 1) := by decide +kernel
theorem zd_Lp_find_1 : decode zc_Lp_find 1 = .ok (.istore_n 2, 1) := by decide +kernel
theorem zd_Lp_find_2 : decode zc_Lp_find 2 = .ok (.iload_n 2, 1) := by decide +kernel
theorem zd_Lp_find_3 : decode zc_Lp_find 3 = .ok (.iconst 1, 1) := by decide +kernel
theorem zd_Lp_find_4 : decode zc_Lp_find 4 = .ok (.iadd, 1) := by decide +kernel
theorem zd_Lp_find_5 : decode zc_Lp_find 5 = .ok (.aload_n 0, 1) := by decide +kernel
theorem zd_Lp_find_6 : decode zc_Lp_find 6 = .ok (.getfield 31, 3) := by decide +kernel
theorem zd_Lp_find_9 : decode zc_Lp_find 9 = .ok (.getfield 61, 3) := by decide +kernel
theorem zd_Lp_find_12 : decode zc_Lp_find 12 = .ok (.if_icmp .ge 52, 3) := by decide +kernel
theorem zd_Lp_find_15 : decode zc_Lp_find 15 = .ok (.aload_n 0, 1) := by decide +kernel
theorem zd_Lp_find_16 : decode zc_Lp_find 16 = .ok (.getfield 31, 3) := by decide +kernel
theorem zd_Lp_find_19 : decode zc_Lp_find 19 = .ok (.iload_n 2, 1) := by decide +kernel
theorem zd_Lp_find_20 : decode zc_Lp_find 20 = .ok (.bipush 6, 2) := by decide +kernel
theorem zd_Lp_find_22 : decode zc_Lp_find 22 = .ok (.invokevirtual 77, 3) := by decide +kernel
theorem zd_Lp_find_25 : decode zc_Lp_find 25 = .ok (.ifCond .ne 33, 3) := by decide +kernel
theorem zd_Lp_find_28 : decode zc_Lp_find 28 = .ok (.aload_n 0, 1) := by decide +kernel
theorem zd_Lp_find_29 : decode zc_Lp_find 29 = .ok (.getfield 31, 3) := by decide +kernel
theorem zd_Lp_find_32 : decode zc_Lp_find 32 = .ok (.iload_n 2, 1) := by decide +kernel
theorem zd_Lp_find_33 : decode zc_Lp_find 33 = .ok (.iconst 0, 1) := by decide +kernel
theorem zd_Lp_find_34 : decode zc_Lp_find 34 = .ok (.invokevirtual 77, 3) := by decide +kernel
theorem zd_Lp_find_37 : decode zc_Lp_find 37 = .ok (.iload_n 1, 1) := by decide +kernel
theorem zd_Lp_find_38 : decode zc_Lp_find 38 = .ok (.if_icmp .gt 20, 3) := by decide +kernel
theorem zd_Lp_find_41 : decode zc_Lp_find 41 = .ok (.aload_n 0, 1) := by decide +kernel
theorem zd_Lp_find_42 : decode zc_Lp_find 42 = .ok (.getfield 31, 3) := by decide +kernel
theorem zd_Lp_find_45 : decode zc_Lp_find 45 = .ok (.iload_n 2, 1) := by decide +kernel
theorem zd_Lp_find_46 : decode zc_Lp_find 46 = .ok (.iconst 1, 1) := by decide +kernel
theorem zd_Lp_find_47 : decode zc_Lp_find 47 = .ok (.iadd, 1) := by decide +kernel
theorem zd_Lp_find_48 : decode zc_Lp_find 48 = .ok (.iconst 0, 1) := by decide +kernel
theorem zd_Lp_find_49 : decode zc_Lp_find 49 = .ok (.invokevirtual 77, 3) := by decide +kernel
theorem zd_Lp_find_52 : decode zc_Lp_find 52 = .ok (.iload_n 1, 1) := by decide +kernel
theorem zd_Lp_find_53 : decode zc_Lp_find 53 = .ok (.if_icmp .le 5, 3) := by decide +kernel
theorem zd_Lp_find_56 : decode zc_Lp_find 56 = .ok (.iload_n 2, 1) := by decide +kernel
theorem zd_Lp_find_57 : decode zc_Lp_find 57 = .ok (.ireturn, 1) := by decide +kernel
theorem zd_Lp_find_58 : decode zc_Lp_find 58 = .ok (.iinc 2 1, 3) := by decide +kernel
theorem zd_Lp_find_61 : decode zc_Lp_find 61 = .ok (.goto (-59), 3) := by decide +kernel
theorem zd_Lp_find_64 : decode zc_Lp_find 64 = .ok (.iconst (-1), 1) := by decide +kernel
theorem zd_Lp_find_65 : decode zc_Lp_find 65 = .ok (.ireturn, 1) := by decide +kernel
theorem zd_Ro_get_0 : decode zc_Ro_get 0 = .ok (.aload_n 0, 1) := by decide +kernel
theorem zd_Ro_get_1 : decode zc_Ro_get 1 = .ok (.getfield 9, 3) := by decide +kernel
theorem zd_Ro_get_4 : decode zc_Ro_get 4 = .ok (.iload_n 1, 1) := by decide +kernel
theorem zd_Ro_get_5 : decode zc_Ro_get 5 = .ok (.bipush 7, 2) := by decide +kernel
theorem zd_Ro_get_7 : decode zc_Ro_get 7 = .ok (.imul, 1) := by decide +kernel
theorem zd_Ro_get_8 : decode zc_Ro_get 8 = .ok (.iload_n 2, 1) := by decide +kernel
theorem zd_Ro_get_9 : decode zc_Ro_get 9 = .ok (.iadd, 1) := by decide +kernel
theorem zd_Ro_get_10 : decode zc_Ro_get 10 = .ok (.iaload, 1) := by decide +kernel
theorem zd_Ro_get_11 : decode zc_Ro_get 11 = .ok (.ireturn, 1) := by decide +kernel
theorem zd_Lp_count_0 : decode zc_Lp_count 0 = .ok (.iload_n 1, 1) := by decide +kernel
theorem zd_Lp_count_1 : decode zc_Lp_count 1 = .ok (.tableswitch 51 0 2 #[27, 35, 43], 27) := by decide +kernel
theorem zd_Lp_count_28 : decode zc_Lp_count 28 = .ok (.aload_n 0, 1) := by decide +kernel
theorem zd_Lp_count_29 : decode zc_Lp_count 29 = .ok (.getfield 21, 3) := by decide +kernel
theorem zd_Lp_count_32 : decode zc_Lp_count 32 = .ok (.getfield 53, 3) := by decide +kernel
theorem zd_Lp_count_35 : decode zc_Lp_count 35 = .ok (.ireturn, 1) := by decide +kernel
theorem zd_Lp_count_36 : decode zc_Lp_count 36 = .ok (.aload_n 0, 1) := by decide +kernel
theorem zd_Lp_count_37 : decode zc_Lp_count 37 = .ok (.getfield 31, 3) := by decide +kernel
theorem zd_Lp_count_40 : decode zc_Lp_count 40 = .ok (.getfield 61, 3) := by decide +kernel
theorem zd_Lp_count_43 : decode zc_Lp_count 43 = .ok (.ireturn, 1) := by decide +kernel
theorem zd_Lp_count_44 : decode zc_Lp_count 44 = .ok (.aload_n 0, 1) := by decide +kernel
theorem zd_Lp_count_45 : decode zc_Lp_count 45 = .ok (.getfield 41, 3) := by decide +kernel
theorem zd_Lp_count_48 : decode zc_Lp_count 48 = .ok (.getfield 87, 3) := by decide +kernel
theorem zd_Lp_count_51 : decode zc_Lp_count 51 = .ok (.ireturn, 1) := by decide +kernel
theorem zd_Lp_count_52 : decode zc_Lp_count 52 = .ok (.iconst (-1), 1) := by decide +kernel
theorem zd_Lp_count_53 : decode zc_Lp_count 53 = .ok (.ireturn, 1) := by decide +kernel
theorem zd_Lp_put_0 : decode zc_Lp_put 0 = .ok (.aload_n 0, 1) := by decide +kernel
theorem zd_Lp_put_1 : decode zc_Lp_put 1 = .ok (.getfield 21, 3) := by decide +kernel
theorem zd_Lp_put_4 : decode zc_Lp_put 4 = .ok (.iload_n 1, 1) := by decide +kernel
theorem zd_Lp_put_5 : decode zc_Lp_put 5 = .ok (.invokevirtual 49, 3) := by decide +kernel
theorem zd_Lp_put_8 : decode zc_Lp_put 8 = .ok (.aload_n 0, 1) := by decide +kernel
theorem zd_Lp_put_9 : decode zc_Lp_put 9 = .ok (.getfield 21, 3) := by decide +kernel
theorem zd_Lp_put_12 : decode zc_Lp_put 12 = .ok (.getfield 53, 3) := by decide +kernel
theorem zd_Lp_put_15 : decode zc_Lp_put 15 = .ok (.ireturn, 1) := by decide +kernel
theorem zd_By_append_0 : decode zc_By_append 0 = .ok (.aload_n 0, 1) := by decide +kernel
theorem zd_By_append_1 : decode zc_By_append 1 = .ok (.getfield 15, 3) := by decide +kernel
theorem zd_By_append_4 : decode zc_By_append 4 = .ok (.sipush 600, 3) := by decide +kernel
theorem zd_By_append_7 : decode zc_By_append 7 = .ok (.if_icmp .lt 13, 3) := by decide +kernel
theorem zd_By_append_10 : decode zc_By_append 10 = .ok (.new 19, 3) := by decide +kernel
theorem zd_By_append_13 : decode zc_By_append 13 = .ok (.dup, 1) := by decide +kernel
theorem zd_By_append_14 : decode zc_By_append 14 = .ok (.ldc 21, 2) := by decide +kernel
theorem zd_By_append_16 : decode zc_By_append 16 = .ok (.invokespecial 23, 3) := by decide +kernel
theorem zd_By_append_19 : decode zc_By_append 19 = .ok (.athrow, 1) := by decide +kernel
theorem zd_By_append_20 : decode zc_By_append 20 = .ok (.aload_n 0, 1) := by decide +kernel
theorem zd_By_append_21 : decode zc_By_append 21 = .ok (.getfield 9, 3) := by decide +kernel
theorem zd_By_append_24 : decode zc_By_append 24 = .ok (.aload_n 0, 1) := by decide +kernel
theorem zd_By_append_25 : decode zc_By_append 25 = .ok (.getfield 15, 3) := by decide +kernel
theorem zd_By_append_28 : decode zc_By_append 28 = .ok (.iload_n 1, 1) := by decide +kernel
theorem zd_By_append_29 : decode zc_By_append 29 = .ok (.sipush 255, 3) := by decide +kernel
theorem zd_By_append_32 : decode zc_By_append 32 = .ok (.iand, 1) := by decide +kernel
theorem zd_By_append_33 : decode zc_By_append 33 = .ok (.iastore, 1) := by decide +kernel
theorem zd_By_append_34 : decode zc_By_append 34 = .ok (.aload_n 0, 1) := by decide +kernel
theorem zd_By_append_35 : decode zc_By_append 35 = .ok (.dup, 1) := by decide +kernel
theorem zd_By_append_36 : decode zc_By_append 36 = .ok (.getfield 15, 3) := by decide +kernel
theorem zd_By_append_39 : decode zc_By_append 39 = .ok (.iconst 1, 1) := by decide +kernel
theorem zd_By_append_40 : decode zc_By_append 40 = .ok (.iadd, 1) := by decide +kernel
theorem zd_By_append_41 : decode zc_By_append 41 = .ok (.putfield 15, 3) := by decide +kernel
theorem zd_By_append_44 : decode zc_By_append 44 = .ok (.return_, 1) := by decide +kernel
theorem zd_Lp_run_0 : decode zc_Lp_run 0 = .ok (.aload_n 0, 1) := by decide +kernel
theorem zd_Lp_run_1 : decode zc_Lp_run 1 = .ok (.getfield 35, 3) := by decide +kernel
theorem zd_Lp_run_4 : decode zc_Lp_run 4 = .ok (.iconst 0, 1) := by decide +kernel
theorem zd_Lp_run_5 : decode zc_Lp_run 5 = .ok (.putfield 61, 3) := by decide +kernel
theorem zd_Lp_run_8 : decode zc_Lp_run 8 = .ok (.new 62, 3) := by decide +kernel
theorem zd_Lp_run_11 : decode zc_Lp_run 11 = .ok (.dup, 1) := by decide +kernel
theorem zd_Lp_run_12 : decode zc_Lp_run 12 = .ok (.aload_n 0, 1) := by decide +kernel
theorem zd_Lp_run_13 : decode zc_Lp_run 13 = .ok (.getfield 12, 3) := by decide +kernel
theorem zd_Lp_run_16 : decode zc_Lp_run 16 = .ok (.aload_n 0, 1) := by decide +kernel
theorem zd_Lp_run_17 : decode zc_Lp_run 17 = .ok (.getfield 21, 3) := by decide +kernel
theorem zd_Lp_run_20 : decode zc_Lp_run 20 = .ok (.aload_n 0, 1) := by decide +kernel
theorem zd_Lp_run_21 : decode zc_Lp_run 21 = .ok (.getfield 35, 3) := by decide +kernel
theorem zd_Lp_run_24 : decode zc_Lp_run 24 = .ok (.invokespecial 64, 3) := by decide +kernel
theorem zd_Lp_run_27 : decode zc_Lp_run 27 = .ok (.invokevirtual 67, 3) := by decide +kernel
theorem zd_Lp_run_30 : decode zc_Lp_run 30 = .ok (.aload_n 0, 1) := by decide +kernel
theorem zd_Lp_run_31 : decode zc_Lp_run 31 = .ok (.getfield 31, 3) := by decide +kernel
theorem zd_Lp_run_34 : decode zc_Lp_run 34 = .ok (.astore_n 1, 1) := by decide +kernel
theorem zd_Lp_run_35 : decode zc_Lp_run 35 = .ok (.aload_n 0, 1) := by decide +kernel
theorem zd_Lp_run_36 : decode zc_Lp_run 36 = .ok (.aload_n 0, 1) := by decide +kernel
theorem zd_Lp_run_37 : decode zc_Lp_run 37 = .ok (.getfield 35, 3) := by decide +kernel
theorem zd_Lp_run_40 : decode zc_Lp_run 40 = .ok (.putfield 31, 3) := by decide +kernel
theorem zd_Lp_run_43 : decode zc_Lp_run 43 = .ok (.aload_n 0, 1) := by decide +kernel
theorem zd_Lp_run_44 : decode zc_Lp_run 44 = .ok (.aload_n 1, 1) := by decide +kernel
theorem zd_Lp_run_45 : decode zc_Lp_run 45 = .ok (.putfield 35, 3) := by decide +kernel
theorem zd_Lp_run_48 : decode zc_Lp_run 48 = .ok (.aload_n 0, 1) := by decide +kernel
theorem zd_Lp_run_49 : decode zc_Lp_run 49 = .ok (.getfield 31, 3) := by decide +kernel
theorem zd_Lp_run_52 : decode zc_Lp_run 52 = .ok (.getfield 61, 3) := by decide +kernel
theorem zd_Lp_run_55 : decode zc_Lp_run 55 = .ok (.ireturn, 1) := by decide +kernel
theorem zd_Ma_init_0 : decode zc_Ma_init 0 = .ok (.aload_n 0, 1) := by decide +kernel
theorem zd_Ma_init_1 : decode zc_Ma_init 1 = .ok (.invokespecial 3, 3) := by decide +kernel
theorem zd_Ma_init_4 : decode zc_Ma_init 4 = .ok (.aload_n 0, 1) := by decide +kernel
theorem zd_Ma_init_5 : decode zc_Ma_init 5 = .ok (.aload_n 1, 1) := by decide +kernel
theorem zd_Ma_init_6 : decode zc_Ma_init 6 = .ok (.putfield 9, 3) := by decide +kernel
theorem zd_Ma_init_9 : decode zc_Ma_init 9 = .ok (.aload_n 0, 1) := by decide +kernel
theorem zd_Ma_init_10 : decode zc_Ma_init 10 = .ok (.new 15, 3) := by decide +kernel
theorem zd_Ma_init_13 : decode zc_Ma_init 13 = .ok (.dup, 1) := by decide +kernel
theorem zd_Ma_init_14 : decode zc_Ma_init 14 = .ok (.aload_n 2, 1) := by decide +kernel
theorem zd_Ma_init_15 : decode zc_Ma_init 15 = .ok (.invokespecial 17, 3) := by decide +kernel
theorem zd_Ma_init_18 : decode zc_Ma_init 18 = .ok (.putfield 20, 3) := by decide +kernel
