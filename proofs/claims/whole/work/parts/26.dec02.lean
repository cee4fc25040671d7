theorem zd_Ma_init_21 : decode zc_Ma_init 21 = .ok (.aload_n 0, 1) := by decide +kernel
theorem zd_Ma_init_22 : decode zc_Ma_init 22 = .ok (.aload_n 3, 1) := by decide +kernel
theorem zd_Ma_init_23 : decode zc_Ma_init 23 = .ok (.putfield 24, 3) := by decide +kernel
theorem zd_Ma_init_26 : decode zc_Ma_init 26 = .ok (.return_, 1) := by decide +kernel
theorem zd_Re_init_0 : decode zc_Re_init 0 = .ok (.aload_n 0, 1) := by decide +kernel
theorem zd_Re_init_1 : decode zc_Re_init 1 = .ok (.invokespecial 3, 3) := by decide +kernel
theorem zd_Re_init_4 : decode zc_Re_init 4 = .ok (.aload_n 0, 1) := by decide +kernel
theorem zd_Re_init_5 : decode zc_Re_init 5 = .ok (.iconst 0, 1) := by decide +kernel
theorem zd_Re_init_6 : decode zc_Re_init 6 = .ok (.putfield 9, 3) := by decide +kernel
theorem zd_Re_init_9 : decode zc_Re_init 9 = .ok (.aload_n 0, 1) := by decide +kernel
theorem zd_Re_init_10 : decode zc_Re_init 10 = .ok (.aload_n 1, 1) := by decide +kernel
theorem zd_Re_init_11 : decode zc_Re_init 11 = .ok (.putfield 15, 3) := by decide +kernel
theorem zd_Re_init_14 : decode zc_Re_init 14 = .ok (.return_, 1) := by decide +kernel
theorem zd_Ma_runAll_0 : decode zc_Ma_runAll 0 = .ok (.aload_n 0, 1) := by decide +kernel
theorem zd_Ma_runAll_1 : decode zc_Ma_runAll 1 = .ok (.invokevirtual 28, 3) := by decide +kernel
theorem zd_Ma_runAll_4 : decode zc_Ma_runAll 4 = .ok (.iconst 0, 1) := by decide +kernel
theorem zd_Ma_runAll_5 : decode zc_Ma_runAll 5 = .ok (.istore_n 1, 1) := by decide +kernel
theorem zd_Ma_runAll_6 : decode zc_Ma_runAll 6 = .ok (.iload_n 1, 1) := by decide +kernel
theorem zd_Ma_runAll_7 : decode zc_Ma_runAll 7 = .ok (.sipush 600, 3) := by decide +kernel
theorem zd_Ma_runAll_10 : decode zc_Ma_runAll 10 = .ok (.if_icmp .ge 35, 3) := by decide +kernel
theorem zd_Ma_runAll_13 : decode zc_Ma_runAll 13 = .ok (.aload_n 0, 1) := by decide +kernel
theorem zd_Ma_runAll_14 : decode zc_Ma_runAll 14 = .ok (.getfield 20, 3) := by decide +kernel
theorem zd_Ma_runAll_17 : decode zc_Ma_runAll 17 = .ok (.invokevirtual 31, 3) := by decide +kernel
theorem zd_Ma_runAll_20 : decode zc_Ma_runAll 20 = .ok (.ifCond .le 25, 3) := by decide +kernel
theorem zd_Ma_runAll_23 : decode zc_Ma_runAll 23 = .ok (.aload_n 0, 1) := by decide +kernel
theorem zd_Ma_runAll_24 : decode zc_Ma_runAll 24 = .ok (.iconst 0, 1) := by decide +kernel
theorem zd_Ma_runAll_25 : decode zc_Ma_runAll 25 = .ok (.putfield 35, 3) := by decide +kernel
theorem zd_Ma_runAll_28 : decode zc_Ma_runAll 28 = .ok (.aload_n 0, 1) := by decide +kernel
theorem zd_Ma_runAll_29 : decode zc_Ma_runAll 29 = .ok (.aload_n 0, 1) := by decide +kernel
theorem zd_Ma_runAll_30 : decode zc_Ma_runAll 30 = .ok (.getfield 20, 3) := by decide +kernel
theorem zd_Ma_runAll_33 : decode zc_Ma_runAll 33 = .ok (.invokevirtual 39, 3) := by decide +kernel
theorem zd_Ma_runAll_36 : decode zc_Ma_runAll 36 = .ok (.invokevirtual 42, 3) := by decide +kernel
theorem zd_Ma_runAll_39 : decode zc_Ma_runAll 39 = .ok (.iinc 1 1, 3) := by decide +kernel
theorem zd_Ma_runAll_42 : decode zc_Ma_runAll 42 = .ok (.goto (-36), 3) := by decide +kernel
theorem zd_Ma_runAll_45 : decode zc_Ma_runAll 45 = .ok (.aload_n 0, 1) := by decide +kernel
theorem zd_Ma_runAll_46 : decode zc_Ma_runAll 46 = .ok (.getfield 35, 3) := by decide +kernel
theorem zd_Ma_runAll_49 : decode zc_Ma_runAll 49 = .ok (.ifCond .ne 13, 3) := by decide +kernel
theorem zd_Ma_runAll_52 : decode zc_Ma_runAll 52 = .ok (.new 46, 3) := by decide +kernel
theorem zd_Ma_runAll_55 : decode zc_Ma_runAll 55 = .ok (.dup, 1) := by decide +kernel
theorem zd_Ma_runAll_56 : decode zc_Ma_runAll 56 = .ok (.ldc 48, 2) := by decide +kernel
theorem zd_Ma_runAll_58 : decode zc_Ma_runAll 58 = .ok (.invokespecial 50, 3) := by decide +kernel
theorem zd_Ma_runAll_61 : decode zc_Ma_runAll 61 = .ok (.athrow, 1) := by decide +kernel
theorem zd_Ma_runAll_62 : decode zc_Ma_runAll 62 = .ok (.return_, 1) := by decide +kernel
theorem zd_Ma_beginAnew_0 : decode zc_Ma_beginAnew 0 = .ok (.aload_n 0, 1) := by decide +kernel
theorem zd_Ma_beginAnew_1 : decode zc_Ma_beginAnew 1 = .ok (.iconst 0, 1) := by decide +kernel
theorem zd_Ma_beginAnew_2 : decode zc_Ma_beginAnew 2 = .ok (.putfield 53, 3) := by decide +kernel
theorem zd_Ma_beginAnew_5 : decode zc_Ma_beginAnew 5 = .ok (.aload_n 0, 1) := by decide +kernel
theorem zd_Ma_beginAnew_6 : decode zc_Ma_beginAnew 6 = .ok (.iconst 1, 1) := by decide +kernel
theorem zd_Ma_beginAnew_7 : decode zc_Ma_beginAnew 7 = .ok (.putfield 57, 3) := by decide +kernel
theorem zd_Ma_beginAnew_10 : decode zc_Ma_beginAnew 10 = .ok (.aload_n 0, 1) := by decide +kernel
theorem zd_Ma_beginAnew_11 : decode zc_Ma_beginAnew 11 = .ok (.iconst 1, 1) := by decide +kernel
theorem zd_Ma_beginAnew_12 : decode zc_Ma_beginAnew 12 = .ok (.putfield 60, 3) := by decide +kernel
theorem zd_Ma_beginAnew_15 : decode zc_Ma_beginAnew 15 = .ok (.aload_n 0, 1) := by decide +kernel
theorem zd_Ma_beginAnew_16 : decode zc_Ma_beginAnew 16 = .ok (.iconst 0, 1) := by decide +kernel
theorem zd_Ma_beginAnew_17 : decode zc_Ma_beginAnew 17 = .ok (.putfield 63, 3) := by decide +kernel
theorem zd_Ma_beginAnew_20 : decode zc_Ma_beginAnew 20 = .ok (.aload_n 0, 1) := by decide +kernel
theorem zd_Ma_beginAnew_21 : decode zc_Ma_beginAnew 21 = .ok (.aload_n 0, 1) := by decide +kernel
theorem zd_Ma_beginAnew_22 : decode zc_Ma_beginAnew 22 = .ok (.getfield 9, 3) := by decide +kernel
theorem zd_Ma_beginAnew_25 : decode zc_Ma_beginAnew 25 = .ok (.getfield 66, 3) := by decide +kernel
theorem zd_Ma_beginAnew_28 : decode zc_Ma_beginAnew 28 = .ok (.putfield 71, 3) := by decide +kernel
theorem zd_Ma_beginAnew_31 : decode zc_Ma_beginAnew 31 = .ok (.aload_n 0, 1) := by decide +kernel
theorem zd_Ma_beginAnew_32 : decode zc_Ma_beginAnew 32 = .ok (.iconst 0, 1) := by decide +kernel
theorem zd_Ma_beginAnew_33 : decode zc_Ma_beginAnew 33 = .ok (.putfield 74, 3) := by decide +kernel
theorem zd_Ma_beginAnew_36 : decode zc_Ma_beginAnew 36 = .ok (.aload_n 0, 1) := by decide +kernel
theorem zd_Ma_beginAnew_37 : decode zc_Ma_beginAnew 37 = .ok (.iconst 0, 1) := by decide +kernel
theorem zd_Ma_beginAnew_38 : decode zc_Ma_beginAnew 38 = .ok (.putfield 77, 3) := by decide +kernel
theorem zd_Ma_beginAnew_41 : decode zc_Ma_beginAnew 41 = .ok (.aload_n 0, 1) := by decide +kernel
theorem zd_Ma_beginAnew_42 : decode zc_Ma_beginAnew 42 = .ok (.iconst 1, 1) := by decide +kernel
theorem zd_Ma_beginAnew_43 : decode zc_Ma_beginAnew 43 = .ok (.putfield 35, 3) := by decide +kernel
theorem zd_Ma_beginAnew_46 : decode zc_Ma_beginAnew 46 = .ok (.return_, 1) := by decide +kernel
theorem zd_Re_bytesLeft_0 : decode zc_Re_bytesLeft 0 = .ok (.aload_n 0, 1) := by decide +kernel
theorem zd_Re_bytesLeft_1 : decode zc_Re_bytesLeft 1 = .ok (.getfield 15, 3) := by decide +kernel
theorem zd_Re_bytesLeft_4 : decode zc_Re_bytesLeft 4 = .ok (.getfield 19, 3) := by decide +kernel
theorem zd_Re_bytesLeft_7 : decode zc_Re_bytesLeft 7 = .ok (.aload_n 0, 1) := by decide +kernel
theorem zd_Re_bytesLeft_8 : decode zc_Re_bytesLeft 8 = .ok (.getfield 9, 3) := by decide +kernel
theorem zd_Re_bytesLeft_11 : decode zc_Re_bytesLeft 11 = .ok (.isub, 1) := by decide +kernel
theorem zd_Re_bytesLeft_12 : decode zc_Re_bytesLeft 12 = .ok (.ireturn, 1) := by decide +kernel
theorem zd_Re_nextByte_0 : decode zc_Re_nextByte 0 = .ok (.aload_n 0, 1) := by decide +kernel
theorem zd_Re_nextByte_1 : decode zc_Re_nextByte 1 = .ok (.getfield 9, 3) := by decide +kernel
theorem zd_Re_nextByte_4 : decode zc_Re_nextByte 4 = .ok (.aload_n 0, 1) := by decide +kernel
theorem zd_Re_nextByte_5 : decode zc_Re_nextByte 5 = .ok (.getfield 15, 3) := by decide +kernel
theorem zd_Re_nextByte_8 : decode zc_Re_nextByte 8 = .ok (.getfield 19, 3) := by decide +kernel
theorem zd_Re_nextByte_11 : decode zc_Re_nextByte 11 = .ok (.if_icmp .lt 13, 3) := by decide +kernel
theorem zd_Re_nextByte_14 : decode zc_Re_nextByte 14 = .ok (.new 24, 3) := by decide +kernel
theorem zd_Re_nextByte_17 : decode zc_Re_nextByte 17 = .ok (.dup, 1) := by decide +kernel
theorem zd_Re_nextByte_18 : decode zc_Re_nextByte 18 = .ok (.ldc 26, 2) := by decide +kernel
theorem zd_Re_nextByte_20 : decode zc_Re_nextByte 20 = .ok (.invokespecial 28, 3) := by decide +kernel
theorem zd_Re_nextByte_23 : decode zc_Re_nextByte 23 = .ok (.athrow, 1) := by decide +kernel
theorem zd_Re_nextByte_24 : decode zc_Re_nextByte 24 = .ok (.aload_n 0, 1) := by decide +kernel
theorem zd_Re_nextByte_25 : decode zc_Re_nextByte 25 = .ok (.getfield 15, 3) := by decide +kernel
theorem zd_Re_nextByte_28 : decode zc_Re_nextByte 28 = .ok (.aload_n 0, 1) := by decide +kernel
theorem zd_Re_nextByte_29 : decode zc_Re_nextByte 29 = .ok (.getfield 9, 3) := by decide +kernel
theorem zd_Re_nextByte_32 : decode zc_Re_nextByte 32 = .ok (.invokevirtual 31, 3) := by decide +kernel
theorem zd_Re_nextByte_35 : decode zc_Re_nextByte 35 = .ok (.istore_n 1, 1) := by decide +kernel
theorem zd_Re_nextByte_36 : decode zc_Re_nextByte 36 = .ok (.aload_n 0, 1) := by decide +kernel
theorem zd_Re_nextByte_37 : decode zc_Re_nextByte 37 = .ok (.dup, 1) := by decide +kernel
theorem zd_Re_nextByte_38 : decode zc_Re_nextByte 38 = .ok (.getfield 9, 3) := by decide +kernel
theorem zd_Re_nextByte_41 : decode zc_Re_nextByte 41 = .ok (.iconst 1, 1) := by decide +kernel
theorem zd_Re_nextByte_42 : decode zc_Re_nextByte 42 = .ok (.iadd, 1) := by decide +kernel
theorem zd_Re_nextByte_43 : decode zc_Re_nextByte 43 = .ok (.putfield 9, 3) := by decide +kernel
theorem zd_Re_nextByte_46 : decode zc_Re_nextByte 46 = .ok (.iload_n 1, 1) := by decide +kernel
theorem zd_Re_nextByte_47 : decode zc_Re_nextByte 47 = .ok (.ireturn, 1) := by decide +kernel
theorem zd_Ma_doInstruction_0 : decode zc_Ma_doInstruction 0 = .ok (.iload_n 1, 1) := by decide +kernel
theorem zd_Ma_doInstruction_1 : decode zc_Ma_doInstruction 1 = .ok (.aload_n 0, 1) := by decide +kernel
theorem zd_Ma_doInstruction_2 : decode zc_Ma_doInstruction 2 = .ok (.getfield 9, 3) := by decide +kernel
theorem zd_Ma_doInstruction_5 : decode zc_Ma_doInstruction 5 = .ok (.getfield 80, 3) := by decide +kernel
theorem zd_Ma_doInstruction_8 : decode zc_Ma_doInstruction 8 = .ok (.if_icmp .lt 17, 3) := by decide +kernel
theorem zd_Ma_doInstruction_11 : decode zc_Ma_doInstruction 11 = .ok (.aload_n 0, 1) := by decide +kernel
theorem zd_Ma_doInstruction_12 : decode zc_Ma_doInstruction 12 = .ok (.iload_n 1, 1) := by decide +kernel
theorem zd_Ma_doInstruction_13 : decode zc_Ma_doInstruction 13 = .ok (.aload_n 0, 1) := by decide +kernel
theorem zd_Ma_doInstruction_14 : decode zc_Ma_doInstruction 14 = .ok (.getfield 9, 3) := by decide +kernel
theorem zd_Ma_doInstruction_17 : decode zc_Ma_doInstruction 17 = .ok (.getfield 80, 3) := by decide +kernel
theorem zd_Ma_doInstruction_20 : decode zc_Ma_doInstruction 20 = .ok (.isub, 1) := by decide +kernel
theorem zd_Ma_doInstruction_21 : decode zc_Ma_doInstruction 21 = .ok (.invokevirtual 83, 3) := by decide +kernel
theorem zd_Ma_doInstruction_24 : decode zc_Ma_doInstruction 24 = .ok (.return_, 1) := by decide +kernel
theorem zd_Ma_doInstruction_25 : decode zc_Ma_doInstruction 25 = .ok (.iload_n 1, 1) := by decide +kernel
theorem zd_Ma_doInstruction_26 : decode zc_Ma_doInstruction 26 = .ok (.tableswitch 176 0 9 #[54, 61, 68, 83, 97, 111, 125, 138, 146, 161], 54) := by decide +kernel
theorem zd_Ma_doInstruction_80 : decode zc_Ma_doInstruction 80 = .ok (.aload_n 0, 1) := by decide +kernel
theorem zd_Ma_doInstruction_81 : decode zc_Ma_doInstruction 81 = .ok (.invokevirtual 86, 3) := by decide +kernel
theorem zd_Ma_doInstruction_84 : decode zc_Ma_doInstruction 84 = .ok (.goto 126, 3) := by decide +kernel
theorem zd_Ma_doInstruction_87 : decode zc_Ma_doInstruction 87 = .ok (.aload_n 0, 1) := by decide +kernel
theorem zd_Ma_doInstruction_88 : decode zc_Ma_doInstruction 88 = .ok (.invokevirtual 89, 3) := by decide +kernel
theorem zd_Ma_doInstruction_91 : decode zc_Ma_doInstruction 91 = .ok (.goto 119, 3) := by decide +kernel
theorem zd_Ma_doInstruction_94 : decode zc_Ma_doInstruction 94 = .ok (.aload_n 0, 1) := by decide +kernel
theorem zd_Ma_doInstruction_95 : decode zc_Ma_doInstruction 95 = .ok (.aload_n 0, 1) := by decide +kernel
theorem zd_Ma_doInstruction_96 : decode zc_Ma_doInstruction 96 = .ok (.getfield 20, 3) := by decide +kernel
theorem zd_Ma_doInstruction_99 : decode zc_Ma_doInstruction 99 = .ok (.invokevirtual 92, 3) := by decide +kernel
theorem zd_Ma_doInstruction_102 : decode zc_Ma_doInstruction 102 = .ok (.i2l, 1) := by decide +kernel
theorem zd_Ma_doInstruction_103 : decode zc_Ma_doInstruction 103 = .ok (.invokevirtual 95, 3) := by decide +kernel
theorem zd_Ma_doInstruction_106 : decode zc_Ma_doInstruction 106 = .ok (.goto 104, 3) := by decide +kernel
theorem zd_Ma_doInstruction_109 : decode zc_Ma_doInstruction 109 = .ok (.aload_n 0, 1) := by decide +kernel
theorem zd_Ma_doInstruction_110 : decode zc_Ma_doInstruction 110 = .ok (.aload_n 0, 1) := by decide +kernel
theorem zd_Ma_doInstruction_111 : decode zc_Ma_doInstruction 111 = .ok (.getfield 20, 3) := by decide +kernel
theorem zd_Ma_doInstruction_114 : decode zc_Ma_doInstruction 114 = .ok (.invokevirtual 99, 3) := by decide +kernel
theorem zd_Ma_doInstruction_117 : decode zc_Ma_doInstruction 117 = .ok (.invokevirtual 102, 3) := by decide +kernel
theorem zd_Ma_doInstruction_120 : decode zc_Ma_doInstruction 120 = .ok (.goto 90, 3) := by decide +kernel
theorem zd_Ma_doInstruction_123 : decode zc_Ma_doInstruction 123 = .ok (.aload_n 0, 1) := by decide +kernel
theorem zd_Ma_doInstruction_124 : decode zc_Ma_doInstruction 124 = .ok (.aload_n 0, 1) := by decide +kernel
theorem zd_Ma_doInstruction_125 : decode zc_Ma_doInstruction 125 = .ok (.getfield 20, 3) := by decide +kernel
theorem zd_Ma_doInstruction_128 : decode zc_Ma_doInstruction 128 = .ok (.invokevirtual 92, 3) := by decide +kernel
theorem zd_Ma_doInstruction_131 : decode zc_Ma_doInstruction 131 = .ok (.putfield 57, 3) := by decide +kernel
theorem zd_Ma_doInstruction_134 : decode zc_Ma_doInstruction 134 = .ok (.goto 76, 3) := by decide +kernel
theorem zd_Ma_doInstruction_137 : decode zc_Ma_doInstruction 137 = .ok (.aload_n 0, 1) := by decide +kernel
theorem zd_Ma_doInstruction_138 : decode zc_Ma_doInstruction 138 = .ok (.aload_n 0, 1) := by decide +kernel
theorem zd_Ma_doInstruction_139 : decode zc_Ma_doInstruction 139 = .ok (.getfield 20, 3) := by decide +kernel
theorem zd_Ma_doInstruction_142 : decode zc_Ma_doInstruction 142 = .ok (.invokevirtual 92, 3) := by decide +kernel
theorem zd_Ma_doInstruction_145 : decode zc_Ma_doInstruction 145 = .ok (.putfield 63, 3) := by decide +kernel
theorem zd_Ma_doInstruction_148 : decode zc_Ma_doInstruction 148 = .ok (.goto 62, 3) := by decide +kernel
theorem zd_Ma_doInstruction_151 : decode zc_Ma_doInstruction 151 = .ok (.aload_n 0, 1) := by decide +kernel
theorem zd_Ma_doInstruction_152 : decode zc_Ma_doInstruction 152 = .ok (.iconst 1, 1) := by decide +kernel
