theorem zd_Wr_writeAll_10 : decode zc_Wr_writeAll 10 = .ok (.iconst 0, 1) := by decide +kernel
theorem zd_Wr_writeAll_11 : decode zc_Wr_writeAll 11 = .ok (.istore_n 3, 1) := by decide +kernel
theorem zd_Wr_writeAll_12 : decode zc_Wr_writeAll 12 = .ok (.iload_n 3, 1) := by decide +kernel
theorem zd_Wr_writeAll_13 : decode zc_Wr_writeAll 13 = .ok (.aload_n 1, 1) := by decide +kernel
theorem zd_Wr_writeAll_14 : decode zc_Wr_writeAll 14 = .ok (.getfield 50, 3) := by decide +kernel
theorem zd_Wr_writeAll_17 : decode zc_Wr_writeAll 17 = .ok (.if_icmp .ge 55, 3) := by decide +kernel
theorem zd_Wr_writeAll_20 : decode zc_Wr_writeAll 20 = .ok (.aload_n 0, 1) := by decide +kernel
theorem zd_Wr_writeAll_21 : decode zc_Wr_writeAll 21 = .ok (.aload_n 1, 1) := by decide +kernel
theorem zd_Wr_writeAll_22 : decode zc_Wr_writeAll 22 = .ok (.iload_n 3, 1) := by decide +kernel
theorem zd_Wr_writeAll_23 : decode zc_Wr_writeAll 23 = .ok (.iconst 1, 1) := by decide +kernel
theorem zd_Wr_writeAll_24 : decode zc_Wr_writeAll 24 = .ok (.invokevirtual 40, 3) := by decide +kernel
theorem zd_Wr_writeAll_27 : decode zc_Wr_writeAll 27 = .ok (.invokevirtual 53, 3) := by decide +kernel
theorem zd_Wr_writeAll_30 : decode zc_Wr_writeAll 30 = .ok (.aload_n 0, 1) := by decide +kernel
theorem zd_Wr_writeAll_31 : decode zc_Wr_writeAll 31 = .ok (.aload_n 1, 1) := by decide +kernel
theorem zd_Wr_writeAll_32 : decode zc_Wr_writeAll 32 = .ok (.iload_n 3, 1) := by decide +kernel
theorem zd_Wr_writeAll_33 : decode zc_Wr_writeAll 33 = .ok (.iconst 3, 1) := by decide +kernel
theorem zd_Wr_writeAll_34 : decode zc_Wr_writeAll 34 = .ok (.invokevirtual 40, 3) := by decide +kernel
theorem zd_Wr_writeAll_37 : decode zc_Wr_writeAll 37 = .ok (.invokevirtual 56, 3) := by decide +kernel
theorem zd_Wr_writeAll_40 : decode zc_Wr_writeAll 40 = .ok (.aload_n 0, 1) := by decide +kernel
theorem zd_Wr_writeAll_41 : decode zc_Wr_writeAll 41 = .ok (.aload_n 1, 1) := by decide +kernel
theorem zd_Wr_writeAll_42 : decode zc_Wr_writeAll 42 = .ok (.iload_n 3, 1) := by decide +kernel
theorem zd_Wr_writeAll_43 : decode zc_Wr_writeAll 43 = .ok (.iconst 4, 1) := by decide +kernel
theorem zd_Wr_writeAll_44 : decode zc_Wr_writeAll 44 = .ok (.invokevirtual 40, 3) := by decide +kernel
theorem zd_Wr_writeAll_47 : decode zc_Wr_writeAll 47 = .ok (.invokevirtual 59, 3) := by decide +kernel
theorem zd_Wr_writeAll_50 : decode zc_Wr_writeAll 50 = .ok (.aload_n 0, 1) := by decide +kernel
theorem zd_Wr_writeAll_51 : decode zc_Wr_writeAll 51 = .ok (.aload_n 1, 1) := by decide +kernel
theorem zd_Wr_writeAll_52 : decode zc_Wr_writeAll 52 = .ok (.iload_n 3, 1) := by decide +kernel
theorem zd_Wr_writeAll_53 : decode zc_Wr_writeAll 53 = .ok (.iconst 0, 1) := by decide +kernel
theorem zd_Wr_writeAll_54 : decode zc_Wr_writeAll 54 = .ok (.invokevirtual 40, 3) := by decide +kernel
theorem zd_Wr_writeAll_57 : decode zc_Wr_writeAll 57 = .ok (.aload_n 1, 1) := by decide +kernel
theorem zd_Wr_writeAll_58 : decode zc_Wr_writeAll 58 = .ok (.iload_n 3, 1) := by decide +kernel
theorem zd_Wr_writeAll_59 : decode zc_Wr_writeAll 59 = .ok (.iconst 2, 1) := by decide +kernel
theorem zd_Wr_writeAll_60 : decode zc_Wr_writeAll 60 = .ok (.invokevirtual 40, 3) := by decide +kernel
theorem zd_Wr_writeAll_63 : decode zc_Wr_writeAll 63 = .ok (.invokevirtual 62, 3) := by decide +kernel
theorem zd_Wr_writeAll_66 : decode zc_Wr_writeAll 66 = .ok (.iinc 3 1, 3) := by decide +kernel
theorem zd_Wr_writeAll_69 : decode zc_Wr_writeAll 69 = .ok (.goto (-57), 3) := by decide +kernel
theorem zd_Wr_writeAll_72 : decode zc_Wr_writeAll 72 = .ok (.aload_n 0, 1) := by decide +kernel
theorem zd_Wr_writeAll_73 : decode zc_Wr_writeAll 73 = .ok (.iload_n 2, 1) := by decide +kernel
theorem zd_Wr_writeAll_74 : decode zc_Wr_writeAll 74 = .ok (.invokevirtual 66, 3) := by decide +kernel
theorem zd_Wr_writeAll_77 : decode zc_Wr_writeAll 77 = .ok (.return_, 1) := by decide +kernel
theorem zd_Wr_writeStart_0 : decode zc_Wr_writeStart 0 = .ok (.aload_n 0, 1) := by decide +kernel
theorem zd_Wr_writeStart_1 : decode zc_Wr_writeStart 1 = .ok (.getfield 28, 3) := by decide +kernel
theorem zd_Wr_writeStart_4 : decode zc_Wr_writeStart 4 = .ok (.iconst 0, 1) := by decide +kernel
theorem zd_Wr_writeStart_5 : decode zc_Wr_writeStart 5 = .ok (.invokevirtual 69, 3) := by decide +kernel
theorem zd_Wr_writeStart_8 : decode zc_Wr_writeStart 8 = .ok (.aload_n 0, 1) := by decide +kernel
theorem zd_Wr_writeStart_9 : decode zc_Wr_writeStart 9 = .ok (.getfield 28, 3) := by decide +kernel
theorem zd_Wr_writeStart_12 : decode zc_Wr_writeStart 12 = .ok (.iconst 5, 1) := by decide +kernel
theorem zd_Wr_writeStart_13 : decode zc_Wr_writeStart 13 = .ok (.invokevirtual 69, 3) := by decide +kernel
theorem zd_Wr_writeStart_16 : decode zc_Wr_writeStart 16 = .ok (.aload_n 0, 1) := by decide +kernel
theorem zd_Wr_writeStart_17 : decode zc_Wr_writeStart 17 = .ok (.getfield 28, 3) := by decide +kernel
theorem zd_Wr_writeStart_20 : decode zc_Wr_writeStart 20 = .ok (.iconst 2, 1) := by decide +kernel
theorem zd_Wr_writeStart_21 : decode zc_Wr_writeStart 21 = .ok (.invokevirtual 69, 3) := by decide +kernel
theorem zd_Wr_writeStart_24 : decode zc_Wr_writeStart 24 = .ok (.iconst 0, 1) := by decide +kernel
theorem zd_Wr_writeStart_25 : decode zc_Wr_writeStart 25 = .ok (.istore_n 2, 1) := by decide +kernel
theorem zd_Wr_writeStart_26 : decode zc_Wr_writeStart 26 = .ok (.iload_n 2, 1) := by decide +kernel
theorem zd_Wr_writeStart_27 : decode zc_Wr_writeStart 27 = .ok (.iconst 4, 1) := by decide +kernel
theorem zd_Wr_writeStart_28 : decode zc_Wr_writeStart 28 = .ok (.if_icmp .ge 22, 3) := by decide +kernel
theorem zd_Wr_writeStart_31 : decode zc_Wr_writeStart 31 = .ok (.aload_n 0, 1) := by decide +kernel
theorem zd_Wr_writeStart_32 : decode zc_Wr_writeStart 32 = .ok (.getfield 28, 3) := by decide +kernel
theorem zd_Wr_writeStart_35 : decode zc_Wr_writeStart 35 = .ok (.iload_n 1, 1) := by decide +kernel
theorem zd_Wr_writeStart_36 : decode zc_Wr_writeStart 36 = .ok (.bipush 8, 2) := by decide +kernel
theorem zd_Wr_writeStart_38 : decode zc_Wr_writeStart 38 = .ok (.iload_n 2, 1) := by decide +kernel
theorem zd_Wr_writeStart_39 : decode zc_Wr_writeStart 39 = .ok (.imul, 1) := by decide +kernel
theorem zd_Wr_writeStart_40 : decode zc_Wr_writeStart 40 = .ok (.ishr, 1) := by decide +kernel
theorem zd_Wr_writeStart_41 : decode zc_Wr_writeStart 41 = .ok (.invokevirtual 69, 3) := by decide +kernel
theorem zd_Wr_writeStart_44 : decode zc_Wr_writeStart 44 = .ok (.iinc 2 1, 3) := by decide +kernel
theorem zd_Wr_writeStart_47 : decode zc_Wr_writeStart 47 = .ok (.goto (-21), 3) := by decide +kernel
theorem zd_Wr_writeStart_50 : decode zc_Wr_writeStart 50 = .ok (.aload_n 0, 1) := by decide +kernel
theorem zd_Wr_writeStart_51 : decode zc_Wr_writeStart 51 = .ok (.iload_n 1, 1) := by decide +kernel
theorem zd_Wr_writeStart_52 : decode zc_Wr_writeStart 52 = .ok (.putfield 9, 3) := by decide +kernel
theorem zd_Wr_writeStart_55 : decode zc_Wr_writeStart 55 = .ok (.return_, 1) := by decide +kernel
theorem zd_Wr_writeFile_0 : decode zc_Wr_writeFile 0 = .ok (.iload_n 1, 1) := by decide +kernel
theorem zd_Wr_writeFile_1 : decode zc_Wr_writeFile 1 = .ok (.aload_n 0, 1) := by decide +kernel
theorem zd_Wr_writeFile_2 : decode zc_Wr_writeFile 2 = .ok (.getfield 15, 3) := by decide +kernel
theorem zd_Wr_writeFile_5 : decode zc_Wr_writeFile 5 = .ok (.if_icmp .eq 21, 3) := by decide +kernel
theorem zd_Wr_writeFile_8 : decode zc_Wr_writeFile 8 = .ok (.aload_n 0, 1) := by decide +kernel
theorem zd_Wr_writeFile_9 : decode zc_Wr_writeFile 9 = .ok (.getfield 28, 3) := by decide +kernel
theorem zd_Wr_writeFile_12 : decode zc_Wr_writeFile 12 = .ok (.iconst 4, 1) := by decide +kernel
theorem zd_Wr_writeFile_13 : decode zc_Wr_writeFile 13 = .ok (.invokevirtual 69, 3) := by decide +kernel
theorem zd_Wr_writeFile_16 : decode zc_Wr_writeFile 16 = .ok (.aload_n 0, 1) := by decide +kernel
theorem zd_Wr_writeFile_17 : decode zc_Wr_writeFile 17 = .ok (.iload_n 1, 1) := by decide +kernel
theorem zd_Wr_writeFile_18 : decode zc_Wr_writeFile 18 = .ok (.invokevirtual 74, 3) := by decide +kernel
theorem zd_Wr_writeFile_21 : decode zc_Wr_writeFile 21 = .ok (.aload_n 0, 1) := by decide +kernel
theorem zd_Wr_writeFile_22 : decode zc_Wr_writeFile 22 = .ok (.iload_n 1, 1) := by decide +kernel
theorem zd_Wr_writeFile_23 : decode zc_Wr_writeFile 23 = .ok (.putfield 15, 3) := by decide +kernel
theorem zd_Wr_writeFile_26 : decode zc_Wr_writeFile 26 = .ok (.return_, 1) := by decide +kernel
theorem zd_Wr_writeUnsigned_0 : decode zc_Wr_writeUnsigned 0 = .ok (.iload_n 1, 1) := by decide +kernel
theorem zd_Wr_writeUnsigned_1 : decode zc_Wr_writeUnsigned 1 = .ok (.istore_n 2, 1) := by decide +kernel
theorem zd_Wr_writeUnsigned_2 : decode zc_Wr_writeUnsigned 2 = .ok (.iconst 0, 1) := by decide +kernel
theorem zd_Wr_writeUnsigned_3 : decode zc_Wr_writeUnsigned 3 = .ok (.istore_n 3, 1) := by decide +kernel
theorem zd_Wr_writeUnsigned_4 : decode zc_Wr_writeUnsigned 4 = .ok (.iload_n 3, 1) := by decide +kernel
theorem zd_Wr_writeUnsigned_5 : decode zc_Wr_writeUnsigned 5 = .ok (.iconst 5, 1) := by decide +kernel
theorem zd_Wr_writeUnsigned_6 : decode zc_Wr_writeUnsigned 6 = .ok (.if_icmp .ge 35, 3) := by decide +kernel
theorem zd_Wr_writeUnsigned_9 : decode zc_Wr_writeUnsigned 9 = .ok (.iload_n 2, 1) := by decide +kernel
theorem zd_Wr_writeUnsigned_10 : decode zc_Wr_writeUnsigned 10 = .ok (.bipush 127, 2) := by decide +kernel
theorem zd_Wr_writeUnsigned_12 : decode zc_Wr_writeUnsigned 12 = .ok (.if_icmp .le 29, 3) := by decide +kernel
theorem zd_Wr_writeUnsigned_15 : decode zc_Wr_writeUnsigned 15 = .ok (.aload_n 0, 1) := by decide +kernel
theorem zd_Wr_writeUnsigned_16 : decode zc_Wr_writeUnsigned 16 = .ok (.getfield 28, 3) := by decide +kernel
theorem zd_Wr_writeUnsigned_19 : decode zc_Wr_writeUnsigned 19 = .ok (.iload_n 2, 1) := by decide +kernel
theorem zd_Wr_writeUnsigned_20 : decode zc_Wr_writeUnsigned 20 = .ok (.bipush 127, 2) := by decide +kernel
theorem zd_Wr_writeUnsigned_22 : decode zc_Wr_writeUnsigned 22 = .ok (.iand, 1) := by decide +kernel
theorem zd_Wr_writeUnsigned_23 : decode zc_Wr_writeUnsigned 23 = .ok (.sipush 128, 3) := by decide +kernel
theorem zd_Wr_writeUnsigned_26 : decode zc_Wr_writeUnsigned 26 = .ok (.ior, 1) := by decide +kernel
theorem zd_Wr_writeUnsigned_27 : decode zc_Wr_writeUnsigned 27 = .ok (.invokevirtual 69, 3) := by decide +kernel
theorem zd_Wr_writeUnsigned_30 : decode zc_Wr_writeUnsigned 30 = .ok (.iload_n 2, 1) := by decide +kernel
theorem zd_Wr_writeUnsigned_31 : decode zc_Wr_writeUnsigned 31 = .ok (.bipush 7, 2) := by decide +kernel
theorem zd_Wr_writeUnsigned_33 : decode zc_Wr_writeUnsigned 33 = .ok (.ishr, 1) := by decide +kernel
theorem zd_Wr_writeUnsigned_34 : decode zc_Wr_writeUnsigned 34 = .ok (.istore_n 2, 1) := by decide +kernel
theorem zd_Wr_writeUnsigned_35 : decode zc_Wr_writeUnsigned 35 = .ok (.iinc 3 1, 3) := by decide +kernel
theorem zd_Wr_writeUnsigned_38 : decode zc_Wr_writeUnsigned 38 = .ok (.goto (-34), 3) := by decide +kernel
theorem zd_Wr_writeUnsigned_41 : decode zc_Wr_writeUnsigned 41 = .ok (.aload_n 0, 1) := by decide +kernel
theorem zd_Wr_writeUnsigned_42 : decode zc_Wr_writeUnsigned 42 = .ok (.getfield 28, 3) := by decide +kernel
theorem zd_Wr_writeUnsigned_45 : decode zc_Wr_writeUnsigned 45 = .ok (.iload_n 2, 1) := by decide +kernel
theorem zd_Wr_writeUnsigned_46 : decode zc_Wr_writeUnsigned 46 = .ok (.invokevirtual 69, 3) := by decide +kernel
theorem zd_Wr_writeUnsigned_49 : decode zc_Wr_writeUnsigned 49 = .ok (.return_, 1) := by decide +kernel
theorem zd_Wr_writeColumn_0 : decode zc_Wr_writeColumn 0 = .ok (.iload_n 1, 1) := by decide +kernel
theorem zd_Wr_writeColumn_1 : decode zc_Wr_writeColumn 1 = .ok (.aload_n 0, 1) := by decide +kernel
theorem zd_Wr_writeColumn_2 : decode zc_Wr_writeColumn 2 = .ok (.getfield 21, 3) := by decide +kernel
theorem zd_Wr_writeColumn_5 : decode zc_Wr_writeColumn 5 = .ok (.if_icmp .eq 21, 3) := by decide +kernel
theorem zd_Wr_writeColumn_8 : decode zc_Wr_writeColumn 8 = .ok (.aload_n 0, 1) := by decide +kernel
theorem zd_Wr_writeColumn_9 : decode zc_Wr_writeColumn 9 = .ok (.getfield 28, 3) := by decide +kernel
theorem zd_Wr_writeColumn_12 : decode zc_Wr_writeColumn 12 = .ok (.iconst 5, 1) := by decide +kernel
theorem zd_Wr_writeColumn_13 : decode zc_Wr_writeColumn 13 = .ok (.invokevirtual 69, 3) := by decide +kernel
theorem zd_Wr_writeColumn_16 : decode zc_Wr_writeColumn 16 = .ok (.aload_n 0, 1) := by decide +kernel
theorem zd_Wr_writeColumn_17 : decode zc_Wr_writeColumn 17 = .ok (.iload_n 1, 1) := by decide +kernel
theorem zd_Wr_writeColumn_18 : decode zc_Wr_writeColumn 18 = .ok (.invokevirtual 74, 3) := by decide +kernel
theorem zd_Wr_writeColumn_21 : decode zc_Wr_writeColumn 21 = .ok (.aload_n 0, 1) := by decide +kernel
theorem zd_Wr_writeColumn_22 : decode zc_Wr_writeColumn 22 = .ok (.iload_n 1, 1) := by decide +kernel
theorem zd_Wr_writeColumn_23 : decode zc_Wr_writeColumn 23 = .ok (.putfield 21, 3) := by decide +kernel
theorem zd_Wr_writeColumn_26 : decode zc_Wr_writeColumn 26 = .ok (.return_, 1) := by decide +kernel
theorem zd_Wr_writeStatement_0 : decode zc_Wr_writeStatement 0 = .ok (.iload_n 1, 1) := by decide +kernel
theorem zd_Wr_writeStatement_1 : decode zc_Wr_writeStatement 1 = .ok (.aload_n 0, 1) := by decide +kernel
theorem zd_Wr_writeStatement_2 : decode zc_Wr_writeStatement 2 = .ok (.getfield 37, 3) := by decide +kernel
theorem zd_Wr_writeStatement_5 : decode zc_Wr_writeStatement 5 = .ok (.if_icmp .eq 17, 3) := by decide +kernel
theorem zd_Wr_writeStatement_8 : decode zc_Wr_writeStatement 8 = .ok (.aload_n 0, 1) := by decide +kernel
theorem zd_Wr_writeStatement_9 : decode zc_Wr_writeStatement 9 = .ok (.getfield 28, 3) := by decide +kernel
theorem zd_Wr_writeStatement_12 : decode zc_Wr_writeStatement 12 = .ok (.bipush 6, 2) := by decide +kernel
theorem zd_Wr_writeStatement_14 : decode zc_Wr_writeStatement 14 = .ok (.invokevirtual 69, 3) := by decide +kernel
theorem zd_Wr_writeStatement_17 : decode zc_Wr_writeStatement 17 = .ok (.aload_n 0, 1) := by decide +kernel
theorem zd_Wr_writeStatement_18 : decode zc_Wr_writeStatement 18 = .ok (.iload_n 1, 1) := by decide +kernel
theorem zd_Wr_writeStatement_19 : decode zc_Wr_writeStatement 19 = .ok (.putfield 37, 3) := by decide +kernel
theorem zd_Wr_writeStatement_22 : decode zc_Wr_writeStatement 22 = .ok (.return_, 1) := by decide +kernel
theorem zd_Wr_writeMove_0 : decode zc_Wr_writeMove 0 = .ok (.iload_n 2, 1) := by decide +kernel
theorem zd_Wr_writeMove_1 : decode zc_Wr_writeMove 1 = .ok (.aload_n 0, 1) := by decide +kernel
theorem zd_Wr_writeMove_2 : decode zc_Wr_writeMove 2 = .ok (.getfield 18, 3) := by decide +kernel
theorem zd_Wr_writeMove_5 : decode zc_Wr_writeMove 5 = .ok (.isub, 1) := by decide +kernel
theorem zd_Wr_writeMove_6 : decode zc_Wr_writeMove 6 = .ok (.istore_n 3, 1) := by decide +kernel
theorem zd_Wr_writeMove_7 : decode zc_Wr_writeMove 7 = .ok (.iload_n 3, 1) := by decide +kernel
theorem zd_Wr_writeMove_8 : decode zc_Wr_writeMove 8 = .ok (.aload_n 0, 1) := by decide +kernel
theorem zd_Wr_writeMove_9 : decode zc_Wr_writeMove 9 = .ok (.getfield 24, 3) := by decide +kernel
