theorem zd_Wr_writeEnd_5 : decode zc_Wr_writeEnd 5 = .ok (.if_icmp .eq 21, 3) := by decide +kernel
theorem zd_Wr_writeEnd_8 : decode zc_Wr_writeEnd 8 = .ok (.aload_n 0, 1) := by decide +kernel
theorem zd_Wr_writeEnd_9 : decode zc_Wr_writeEnd 9 = .ok (.getfield 28, 3) := by decide +kernel
theorem zd_Wr_writeEnd_12 : decode zc_Wr_writeEnd 12 = .ok (.iconst 2, 1) := by decide +kernel
theorem zd_Wr_writeEnd_13 : decode zc_Wr_writeEnd 13 = .ok (.invokevirtual 69, 3) := by decide +kernel
theorem zd_Wr_writeEnd_16 : decode zc_Wr_writeEnd 16 = .ok (.aload_n 0, 1) := by decide +kernel
theorem zd_Wr_writeEnd_17 : decode zc_Wr_writeEnd 17 = .ok (.iload_n 1, 1) := by decide +kernel
theorem zd_Wr_writeEnd_18 : decode zc_Wr_writeEnd 18 = .ok (.aload_n 0, 1) := by decide +kernel
theorem zd_Wr_writeEnd_19 : decode zc_Wr_writeEnd 19 = .ok (.getfield 9, 3) := by decide +kernel
theorem zd_Wr_writeEnd_22 : decode zc_Wr_writeEnd 22 = .ok (.isub, 1) := by decide +kernel
theorem zd_Wr_writeEnd_23 : decode zc_Wr_writeEnd 23 = .ok (.invokevirtual 74, 3) := by decide +kernel
theorem zd_Wr_writeEnd_26 : decode zc_Wr_writeEnd 26 = .ok (.aload_n 0, 1) := by decide +kernel
theorem zd_Wr_writeEnd_27 : decode zc_Wr_writeEnd 27 = .ok (.getfield 28, 3) := by decide +kernel
theorem zd_Wr_writeEnd_30 : decode zc_Wr_writeEnd 30 = .ok (.iconst 0, 1) := by decide +kernel
theorem zd_Wr_writeEnd_31 : decode zc_Wr_writeEnd 31 = .ok (.invokevirtual 69, 3) := by decide +kernel
theorem zd_Wr_writeEnd_34 : decode zc_Wr_writeEnd 34 = .ok (.aload_n 0, 1) := by decide +kernel
theorem zd_Wr_writeEnd_35 : decode zc_Wr_writeEnd 35 = .ok (.getfield 28, 3) := by decide +kernel
theorem zd_Wr_writeEnd_38 : decode zc_Wr_writeEnd 38 = .ok (.iconst 1, 1) := by decide +kernel
theorem zd_Wr_writeEnd_39 : decode zc_Wr_writeEnd 39 = .ok (.invokevirtual 69, 3) := by decide +kernel
theorem zd_Wr_writeEnd_42 : decode zc_Wr_writeEnd 42 = .ok (.aload_n 0, 1) := by decide +kernel
theorem zd_Wr_writeEnd_43 : decode zc_Wr_writeEnd 43 = .ok (.getfield 28, 3) := by decide +kernel
theorem zd_Wr_writeEnd_46 : decode zc_Wr_writeEnd 46 = .ok (.iconst 1, 1) := by decide +kernel
theorem zd_Wr_writeEnd_47 : decode zc_Wr_writeEnd 47 = .ok (.invokevirtual 69, 3) := by decide +kernel
theorem zd_Wr_writeEnd_50 : decode zc_Wr_writeEnd 50 = .ok (.return_, 1) := by decide +kernel
theorem zd_Mo_init_0 : decode zc_Mo_init 0 = .ok (.aload_n 0, 1) := by decide +kernel
theorem zd_Mo_init_1 : decode zc_Mo_init 1 = .ok (.invokespecial 1, 3) := by decide +kernel
theorem zd_Mo_init_4 : decode zc_Mo_init 4 = .ok (.aload_n 0, 1) := by decide +kernel
theorem zd_Mo_init_5 : decode zc_Mo_init 5 = .ok (.bipush 13, 2) := by decide +kernel
theorem zd_Mo_init_7 : decode zc_Mo_init 7 = .ok (.putfield 7, 3) := by decide +kernel
theorem zd_Mo_init_10 : decode zc_Mo_init 10 = .ok (.aload_n 0, 1) := by decide +kernel
theorem zd_Mo_init_11 : decode zc_Mo_init 11 = .ok (.bipush 14, 2) := by decide +kernel
theorem zd_Mo_init_13 : decode zc_Mo_init 13 = .ok (.putfield 13, 3) := by decide +kernel
theorem zd_Mo_init_16 : decode zc_Mo_init 16 = .ok (.aload_n 0, 1) := by decide +kernel
theorem zd_Mo_init_17 : decode zc_Mo_init 17 = .ok (.bipush (-5), 2) := by decide +kernel
theorem zd_Mo_init_19 : decode zc_Mo_init 19 = .ok (.putfield 16, 3) := by decide +kernel
theorem zd_Mo_init_22 : decode zc_Mo_init 22 = .ok (.aload_n 0, 1) := by decide +kernel
theorem zd_Mo_init_23 : decode zc_Mo_init 23 = .ok (.iconst 1, 1) := by decide +kernel
theorem zd_Mo_init_24 : decode zc_Mo_init 24 = .ok (.putfield 19, 3) := by decide +kernel
theorem zd_Mo_init_27 : decode zc_Mo_init 27 = .ok (.aload_n 0, 1) := by decide +kernel
theorem zd_Mo_init_28 : decode zc_Mo_init 28 = .ok (.sipush 600, 3) := by decide +kernel
theorem zd_Mo_init_31 : decode zc_Mo_init 31 = .ok (.newarray .int, 2) := by decide +kernel
theorem zd_Mo_init_33 : decode zc_Mo_init 33 = .ok (.putfield 22, 3) := by decide +kernel
theorem zd_Mo_init_36 : decode zc_Mo_init 36 = .ok (.aload_n 0, 1) := by decide +kernel
theorem zd_Mo_init_37 : decode zc_Mo_init 37 = .ok (.sipush 630, 3) := by decide +kernel
theorem zd_Mo_init_40 : decode zc_Mo_init 40 = .ok (.newarray .int, 2) := by decide +kernel
theorem zd_Mo_init_42 : decode zc_Mo_init 42 = .ok (.putfield 26, 3) := by decide +kernel
theorem zd_Mo_init_45 : decode zc_Mo_init 45 = .ok (.aload_n 0, 1) := by decide +kernel
theorem zd_Mo_init_46 : decode zc_Mo_init 46 = .ok (.sipush 630, 3) := by decide +kernel
theorem zd_Mo_init_49 : decode zc_Mo_init 49 = .ok (.newarray .int, 2) := by decide +kernel
theorem zd_Mo_init_51 : decode zc_Mo_init 51 = .ok (.putfield 29, 3) := by decide +kernel
theorem zd_Mo_init_54 : decode zc_Mo_init 54 = .ok (.aload_n 0, 1) := by decide +kernel
theorem zd_Mo_init_55 : decode zc_Mo_init 55 = .ok (.sipush 300, 3) := by decide +kernel
theorem zd_Mo_init_58 : decode zc_Mo_init 58 = .ok (.newarray .int, 2) := by decide +kernel
theorem zd_Mo_init_60 : decode zc_Mo_init 60 = .ok (.putfield 32, 3) := by decide +kernel
theorem zd_Mo_init_63 : decode zc_Mo_init 63 = .ok (.aload_n 0, 1) := by decide +kernel
theorem zd_Mo_init_64 : decode zc_Mo_init 64 = .ok (.sipush 600, 3) := by decide +kernel
theorem zd_Mo_init_67 : decode zc_Mo_init 67 = .ok (.newarray .int, 2) := by decide +kernel
theorem zd_Mo_init_69 : decode zc_Mo_init 69 = .ok (.putfield 35, 3) := by decide +kernel
theorem zd_Mo_init_72 : decode zc_Mo_init 72 = .ok (.return_, 1) := by decide +kernel
theorem zd_Mo_thrown_0 : decode zc_Mo_thrown 0 = .ok (.aload_n 0, 1) := by decide +kernel
theorem zd_Mo_thrown_1 : decode zc_Mo_thrown 1 = .ok (.getfield 38, 3) := by decide +kernel
theorem zd_Mo_thrown_4 : decode zc_Mo_thrown 4 = .ok (.ireturn, 1) := by decide +kernel
theorem zd_Mo_header_0 : decode zc_Mo_header 0 = .ok (.aload_n 0, 1) := by decide +kernel
theorem zd_Mo_header_1 : decode zc_Mo_header 1 = .ok (.iconst 0, 1) := by decide +kernel
theorem zd_Mo_header_2 : decode zc_Mo_header 2 = .ok (.putfield 38, 3) := by decide +kernel
theorem zd_Mo_header_5 : decode zc_Mo_header 5 = .ok (.iload_n 1, 1) := by decide +kernel
theorem zd_Mo_header_6 : decode zc_Mo_header 6 = .ok (.bipush 10, 2) := by decide +kernel
theorem zd_Mo_header_8 : decode zc_Mo_header 8 = .ok (.if_icmp .lt 51, 3) := by decide +kernel
theorem zd_Mo_header_11 : decode zc_Mo_header 11 = .ok (.iload_n 1, 1) := by decide +kernel
theorem zd_Mo_header_12 : decode zc_Mo_header 12 = .ok (.bipush 20, 2) := by decide +kernel
theorem zd_Mo_header_14 : decode zc_Mo_header 14 = .ok (.if_icmp .gt 45, 3) := by decide +kernel
theorem zd_Mo_header_17 : decode zc_Mo_header 17 = .ok (.iload_n 2, 1) := by decide +kernel
theorem zd_Mo_header_18 : decode zc_Mo_header 18 = .ok (.iconst 1, 1) := by decide +kernel
theorem zd_Mo_header_19 : decode zc_Mo_header 19 = .ok (.if_icmp .lt 40, 3) := by decide +kernel
theorem zd_Mo_header_22 : decode zc_Mo_header 22 = .ok (.iload_n 2, 1) := by decide +kernel
theorem zd_Mo_header_23 : decode zc_Mo_header 23 = .ok (.bipush 30, 2) := by decide +kernel
theorem zd_Mo_header_25 : decode zc_Mo_header 25 = .ok (.if_icmp .gt 34, 3) := by decide +kernel
theorem zd_Mo_header_28 : decode zc_Mo_header 28 = .ok (.iload_n 3, 1) := by decide +kernel
theorem zd_Mo_header_29 : decode zc_Mo_header 29 = .ok (.bipush (-20), 2) := by decide +kernel
theorem zd_Mo_header_31 : decode zc_Mo_header 31 = .ok (.if_icmp .lt 28, 3) := by decide +kernel
theorem zd_Mo_header_34 : decode zc_Mo_header 34 = .ok (.iload_n 3, 1) := by decide +kernel
theorem zd_Mo_header_35 : decode zc_Mo_header 35 = .ok (.ifCond .gt 24, 3) := by decide +kernel
theorem zd_Mo_header_38 : decode zc_Mo_header 38 = .ok (.iload 4, 2) := by decide +kernel
theorem zd_Mo_header_40 : decode zc_Mo_header 40 = .ok (.ifCond .eq 9, 3) := by decide +kernel
theorem zd_Mo_header_43 : decode zc_Mo_header 43 = .ok (.iload 4, 2) := by decide +kernel
theorem zd_Mo_header_45 : decode zc_Mo_header 45 = .ok (.iconst 1, 1) := by decide +kernel
theorem zd_Mo_header_46 : decode zc_Mo_header 46 = .ok (.if_icmp .ne 13, 3) := by decide +kernel
theorem zd_Mo_header_49 : decode zc_Mo_header 49 = .ok (.iload_n 3, 1) := by decide +kernel
theorem zd_Mo_header_50 : decode zc_Mo_header 50 = .ok (.iload_n 2, 1) := by decide +kernel
theorem zd_Mo_header_51 : decode zc_Mo_header 51 = .ok (.iadd, 1) := by decide +kernel
theorem zd_Mo_header_52 : decode zc_Mo_header 52 = .ok (.ifCond .le 7, 3) := by decide +kernel
theorem zd_Mo_header_55 : decode zc_Mo_header 55 = .ok (.iconst 1, 1) := by decide +kernel
theorem zd_Mo_header_56 : decode zc_Mo_header 56 = .ok (.goto 4, 3) := by decide +kernel
theorem zd_Mo_header_59 : decode zc_Mo_header 59 = .ok (.iconst 0, 1) := by decide +kernel
theorem zd_Mo_header_60 : decode zc_Mo_header 60 = .ok (.istore 5, 2) := by decide +kernel
theorem zd_Mo_header_62 : decode zc_Mo_header 62 = .ok (.iload 5, 2) := by decide +kernel
theorem zd_Mo_header_64 : decode zc_Mo_header 64 = .ok (.ifCond .eq 24, 3) := by decide +kernel
theorem zd_Mo_header_67 : decode zc_Mo_header 67 = .ok (.aload_n 0, 1) := by decide +kernel
theorem zd_Mo_header_68 : decode zc_Mo_header 68 = .ok (.iload_n 1, 1) := by decide +kernel
theorem zd_Mo_header_69 : decode zc_Mo_header 69 = .ok (.putfield 7, 3) := by decide +kernel
theorem zd_Mo_header_72 : decode zc_Mo_header 72 = .ok (.aload_n 0, 1) := by decide +kernel
theorem zd_Mo_header_73 : decode zc_Mo_header 73 = .ok (.iload_n 2, 1) := by decide +kernel
theorem zd_Mo_header_74 : decode zc_Mo_header 74 = .ok (.putfield 13, 3) := by decide +kernel
theorem zd_Mo_header_77 : decode zc_Mo_header 77 = .ok (.aload_n 0, 1) := by decide +kernel
theorem zd_Mo_header_78 : decode zc_Mo_header 78 = .ok (.iload_n 3, 1) := by decide +kernel
theorem zd_Mo_header_79 : decode zc_Mo_header 79 = .ok (.putfield 16, 3) := by decide +kernel
theorem zd_Mo_header_82 : decode zc_Mo_header 82 = .ok (.aload_n 0, 1) := by decide +kernel
theorem zd_Mo_header_83 : decode zc_Mo_header 83 = .ok (.iload 4, 2) := by decide +kernel
theorem zd_Mo_header_85 : decode zc_Mo_header 85 = .ok (.putfield 19, 3) := by decide +kernel
theorem zd_Mo_header_88 : decode zc_Mo_header 88 = .ok (.iload 5, 2) := by decide +kernel
theorem zd_Mo_header_90 : decode zc_Mo_header 90 = .ok (.ireturn, 1) := by decide +kernel
theorem zd_Mo_put_0 : decode zc_Mo_put 0 = .ok (.aload_n 0, 1) := by decide +kernel
theorem zd_Mo_put_1 : decode zc_Mo_put 1 = .ok (.aload_n 0, 1) := by decide +kernel
theorem zd_Mo_put_2 : decode zc_Mo_put 2 = .ok (.getfield 41, 3) := by decide +kernel
theorem zd_Mo_put_5 : decode zc_Mo_put 5 = .ok (.sipush 600, 3) := by decide +kernel
theorem zd_Mo_put_8 : decode zc_Mo_put 8 = .ok (.if_icmp .ne 7, 3) := by decide +kernel
theorem zd_Mo_put_11 : decode zc_Mo_put 11 = .ok (.iconst 1, 1) := by decide +kernel
theorem zd_Mo_put_12 : decode zc_Mo_put 12 = .ok (.goto 4, 3) := by decide +kernel
theorem zd_Mo_put_15 : decode zc_Mo_put 15 = .ok (.iconst 0, 1) := by decide +kernel
theorem zd_Mo_put_16 : decode zc_Mo_put 16 = .ok (.putfield 38, 3) := by decide +kernel
theorem zd_Mo_put_19 : decode zc_Mo_put 19 = .ok (.aload_n 0, 1) := by decide +kernel
theorem zd_Mo_put_20 : decode zc_Mo_put 20 = .ok (.getfield 38, 3) := by decide +kernel
theorem zd_Mo_put_23 : decode zc_Mo_put 23 = .ok (.ifCond .eq 5, 3) := by decide +kernel
theorem zd_Mo_put_26 : decode zc_Mo_put 26 = .ok (.iconst 0, 1) := by decide +kernel
theorem zd_Mo_put_27 : decode zc_Mo_put 27 = .ok (.ireturn, 1) := by decide +kernel
theorem zd_Mo_put_28 : decode zc_Mo_put 28 = .ok (.aload_n 0, 1) := by decide +kernel
theorem zd_Mo_put_29 : decode zc_Mo_put 29 = .ok (.getfield 22, 3) := by decide +kernel
theorem zd_Mo_put_32 : decode zc_Mo_put 32 = .ok (.aload_n 0, 1) := by decide +kernel
theorem zd_Mo_put_33 : decode zc_Mo_put 33 = .ok (.getfield 41, 3) := by decide +kernel
theorem zd_Mo_put_36 : decode zc_Mo_put 36 = .ok (.iload_n 1, 1) := by decide +kernel
theorem zd_Mo_put_37 : decode zc_Mo_put 37 = .ok (.sipush 255, 3) := by decide +kernel
theorem zd_Mo_put_40 : decode zc_Mo_put 40 = .ok (.iand, 1) := by decide +kernel
theorem zd_Mo_put_41 : decode zc_Mo_put 41 = .ok (.iastore, 1) := by decide +kernel
theorem zd_Mo_put_42 : decode zc_Mo_put 42 = .ok (.aload_n 0, 1) := by decide +kernel
theorem zd_Mo_put_43 : decode zc_Mo_put 43 = .ok (.dup, 1) := by decide +kernel
theorem zd_Mo_put_44 : decode zc_Mo_put 44 = .ok (.getfield 41, 3) := by decide +kernel
theorem zd_Mo_put_47 : decode zc_Mo_put 47 = .ok (.iconst 1, 1) := by decide +kernel
theorem zd_Mo_put_48 : decode zc_Mo_put 48 = .ok (.iadd, 1) := by decide +kernel
theorem zd_Mo_put_49 : decode zc_Mo_put 49 = .ok (.putfield 41, 3) := by decide +kernel
theorem zd_Mo_put_52 : decode zc_Mo_put 52 = .ok (.aload_n 0, 1) := by decide +kernel
theorem zd_Mo_put_53 : decode zc_Mo_put 53 = .ok (.getfield 41, 3) := by decide +kernel
theorem zd_Mo_put_56 : decode zc_Mo_put 56 = .ok (.ireturn, 1) := by decide +kernel
theorem zd_Mo_clear_0 : decode zc_Mo_clear 0 = .ok (.aload_n 0, 1) := by decide +kernel
theorem zd_Mo_clear_1 : decode zc_Mo_clear 1 = .ok (.iconst 0, 1) := by decide +kernel
theorem zd_Mo_clear_2 : decode zc_Mo_clear 2 = .ok (.putfield 38, 3) := by decide +kernel
theorem zd_Mo_clear_5 : decode zc_Mo_clear 5 = .ok (.aload_n 0, 1) := by decide +kernel
theorem zd_Mo_clear_6 : decode zc_Mo_clear 6 = .ok (.getfield 41, 3) := by decide +kernel
theorem zd_Mo_clear_9 : decode zc_Mo_clear 9 = .ok (.istore_n 1, 1) := by decide +kernel
theorem zd_Mo_clear_10 : decode zc_Mo_clear 10 = .ok (.aload_n 0, 1) := by decide +kernel
theorem zd_Mo_clear_11 : decode zc_Mo_clear 11 = .ok (.iconst 0, 1) := by decide +kernel
