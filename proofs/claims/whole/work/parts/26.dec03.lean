theorem zd_Ma_doInstruction_153 : decode zc_Ma_doInstruction 153 = .ok (.aload_n 0, 1) := by decide +kernel
theorem zd_Ma_doInstruction_154 : decode zc_Ma_doInstruction 154 = .ok (.getfield 71, 3) := by decide +kernel
theorem zd_Ma_doInstruction_157 : decode zc_Ma_doInstruction 157 = .ok (.isub, 1) := by decide +kernel
theorem zd_Ma_doInstruction_158 : decode zc_Ma_doInstruction 158 = .ok (.putfield 71, 3) := by decide +kernel
theorem zd_Ma_doInstruction_161 : decode zc_Ma_doInstruction 161 = .ok (.goto 49, 3) := by decide +kernel
theorem zd_Ma_doInstruction_164 : decode zc_Ma_doInstruction 164 = .ok (.aload_n 0, 1) := by decide +kernel
theorem zd_Ma_doInstruction_165 : decode zc_Ma_doInstruction 165 = .ok (.iconst 1, 1) := by decide +kernel
theorem zd_Ma_doInstruction_166 : decode zc_Ma_doInstruction 166 = .ok (.putfield 74, 3) := by decide +kernel
theorem zd_Ma_doInstruction_169 : decode zc_Ma_doInstruction 169 = .ok (.goto 41, 3) := by decide +kernel
theorem zd_Ma_doInstruction_172 : decode zc_Ma_doInstruction 172 = .ok (.aload_n 0, 1) := by decide +kernel
theorem zd_Ma_doInstruction_173 : decode zc_Ma_doInstruction 173 = .ok (.aload_n 0, 1) := by decide +kernel
theorem zd_Ma_doInstruction_174 : decode zc_Ma_doInstruction 174 = .ok (.getfield 9, 3) := by decide +kernel
theorem zd_Ma_doInstruction_177 : decode zc_Ma_doInstruction 177 = .ok (.getfield 105, 3) := by decide +kernel
theorem zd_Ma_doInstruction_180 : decode zc_Ma_doInstruction 180 = .ok (.i2l, 1) := by decide +kernel
theorem zd_Ma_doInstruction_181 : decode zc_Ma_doInstruction 181 = .ok (.invokevirtual 95, 3) := by decide +kernel
theorem zd_Ma_doInstruction_184 : decode zc_Ma_doInstruction 184 = .ok (.goto 26, 3) := by decide +kernel
theorem zd_Ma_doInstruction_187 : decode zc_Ma_doInstruction 187 = .ok (.aload_n 0, 1) := by decide +kernel
theorem zd_Ma_doInstruction_188 : decode zc_Ma_doInstruction 188 = .ok (.aload_n 0, 1) := by decide +kernel
theorem zd_Ma_doInstruction_189 : decode zc_Ma_doInstruction 189 = .ok (.getfield 20, 3) := by decide +kernel
theorem zd_Ma_doInstruction_192 : decode zc_Ma_doInstruction 192 = .ok (.iconst 2, 1) := by decide +kernel
theorem zd_Ma_doInstruction_193 : decode zc_Ma_doInstruction 193 = .ok (.invokevirtual 108, 3) := by decide +kernel
theorem zd_Ma_doInstruction_196 : decode zc_Ma_doInstruction 196 = .ok (.invokevirtual 95, 3) := by decide +kernel
theorem zd_Ma_doInstruction_199 : decode zc_Ma_doInstruction 199 = .ok (.goto 11, 3) := by decide +kernel
theorem zd_Ma_doInstruction_202 : decode zc_Ma_doInstruction 202 = .ok (.aload_n 0, 1) := by decide +kernel
theorem zd_Ma_doInstruction_203 : decode zc_Ma_doInstruction 203 = .ok (.getfield 20, 3) := by decide +kernel
theorem zd_Ma_doInstruction_206 : decode zc_Ma_doInstruction 206 = .ok (.invokevirtual 92, 3) := by decide +kernel
theorem zd_Ma_doInstruction_209 : decode zc_Ma_doInstruction 209 = .ok (.pop, 1) := by decide +kernel
theorem zd_Ma_doInstruction_210 : decode zc_Ma_doInstruction 210 = .ok (.return_, 1) := by decide +kernel
theorem zd_Ma_doSpecial_0 : decode zc_Ma_doSpecial 0 = .ok (.aload_n 0, 1) := by decide +kernel
theorem zd_Ma_doSpecial_1 : decode zc_Ma_doSpecial 1 = .ok (.aload_n 0, 1) := by decide +kernel
theorem zd_Ma_doSpecial_2 : decode zc_Ma_doSpecial 2 = .ok (.getfield 9, 3) := by decide +kernel
theorem zd_Ma_doSpecial_5 : decode zc_Ma_doSpecial 5 = .ok (.getfield 112, 3) := by decide +kernel
theorem zd_Ma_doSpecial_8 : decode zc_Ma_doSpecial 8 = .ok (.iload_n 1, 1) := by decide +kernel
theorem zd_Ma_doSpecial_9 : decode zc_Ma_doSpecial 9 = .ok (.aload_n 0, 1) := by decide +kernel
theorem zd_Ma_doSpecial_10 : decode zc_Ma_doSpecial 10 = .ok (.getfield 9, 3) := by decide +kernel
theorem zd_Ma_doSpecial_13 : decode zc_Ma_doSpecial 13 = .ok (.getfield 115, 3) := by decide +kernel
theorem zd_Ma_doSpecial_16 : decode zc_Ma_doSpecial 16 = .ok (.irem, 1) := by decide +kernel
theorem zd_Ma_doSpecial_17 : decode zc_Ma_doSpecial 17 = .ok (.iadd, 1) := by decide +kernel
theorem zd_Ma_doSpecial_18 : decode zc_Ma_doSpecial 18 = .ok (.invokevirtual 102, 3) := by decide +kernel
theorem zd_Ma_doSpecial_21 : decode zc_Ma_doSpecial 21 = .ok (.aload_n 0, 1) := by decide +kernel
theorem zd_Ma_doSpecial_22 : decode zc_Ma_doSpecial 22 = .ok (.iload_n 1, 1) := by decide +kernel
theorem zd_Ma_doSpecial_23 : decode zc_Ma_doSpecial 23 = .ok (.aload_n 0, 1) := by decide +kernel
theorem zd_Ma_doSpecial_24 : decode zc_Ma_doSpecial 24 = .ok (.getfield 9, 3) := by decide +kernel
theorem zd_Ma_doSpecial_27 : decode zc_Ma_doSpecial 27 = .ok (.getfield 115, 3) := by decide +kernel
theorem zd_Ma_doSpecial_30 : decode zc_Ma_doSpecial 30 = .ok (.idiv, 1) := by decide +kernel
theorem zd_Ma_doSpecial_31 : decode zc_Ma_doSpecial 31 = .ok (.i2l, 1) := by decide +kernel
theorem zd_Ma_doSpecial_32 : decode zc_Ma_doSpecial 32 = .ok (.invokevirtual 95, 3) := by decide +kernel
theorem zd_Ma_doSpecial_35 : decode zc_Ma_doSpecial 35 = .ok (.aload_n 0, 1) := by decide +kernel
theorem zd_Ma_doSpecial_36 : decode zc_Ma_doSpecial 36 = .ok (.invokevirtual 89, 3) := by decide +kernel
theorem zd_Ma_doSpecial_39 : decode zc_Ma_doSpecial 39 = .ok (.return_, 1) := by decide +kernel
theorem zd_Ma_addToLine_0 : decode zc_Ma_addToLine 0 = .ok (.aload_n 0, 1) := by decide +kernel
theorem zd_Ma_addToLine_1 : decode zc_Ma_addToLine 1 = .ok (.getfield 60, 3) := by decide +kernel
theorem zd_Ma_addToLine_4 : decode zc_Ma_addToLine 4 = .ok (.i2l, 1) := by decide +kernel
theorem zd_Ma_addToLine_5 : decode zc_Ma_addToLine 5 = .ok (.iload_n 1, 1) := by decide +kernel
theorem zd_Ma_addToLine_6 : decode zc_Ma_addToLine 6 = .ok (.i2l, 1) := by decide +kernel
theorem zd_Ma_addToLine_7 : decode zc_Ma_addToLine 7 = .ok (.ladd, 1) := by decide +kernel
theorem zd_Ma_addToLine_8 : decode zc_Ma_addToLine 8 = .ok (.lstore_n 2, 1) := by decide +kernel
theorem zd_Ma_addToLine_9 : decode zc_Ma_addToLine 9 = .ok (.lload_n 2, 1) := by decide +kernel
theorem zd_Ma_addToLine_10 : decode zc_Ma_addToLine 10 = .ok (.lconst 0, 1) := by decide +kernel
theorem zd_Ma_addToLine_11 : decode zc_Ma_addToLine 11 = .ok (.lcmp, 1) := by decide +kernel
theorem zd_Ma_addToLine_12 : decode zc_Ma_addToLine 12 = .ok (.ifCond .lt 11, 3) := by decide +kernel
theorem zd_Ma_addToLine_15 : decode zc_Ma_addToLine 15 = .ok (.lload_n 2, 1) := by decide +kernel
theorem zd_Ma_addToLine_16 : decode zc_Ma_addToLine 16 = .ok (.ldc2_w 145, 3) := by decide +kernel
theorem zd_Ma_addToLine_19 : decode zc_Ma_addToLine 19 = .ok (.lcmp, 1) := by decide +kernel
theorem zd_Ma_addToLine_20 : decode zc_Ma_addToLine 20 = .ok (.ifCond .le 13, 3) := by decide +kernel
theorem zd_Ma_addToLine_23 : decode zc_Ma_addToLine 23 = .ok (.new 147, 3) := by decide +kernel
theorem zd_Ma_addToLine_26 : decode zc_Ma_addToLine 26 = .ok (.dup, 1) := by decide +kernel
theorem zd_Ma_addToLine_27 : decode zc_Ma_addToLine 27 = .ok (.ldc 149, 2) := by decide +kernel
theorem zd_Ma_addToLine_29 : decode zc_Ma_addToLine 29 = .ok (.invokespecial 151, 3) := by decide +kernel
theorem zd_Ma_addToLine_32 : decode zc_Ma_addToLine 32 = .ok (.athrow, 1) := by decide +kernel
theorem zd_Ma_addToLine_33 : decode zc_Ma_addToLine 33 = .ok (.aload_n 0, 1) := by decide +kernel
theorem zd_Ma_addToLine_34 : decode zc_Ma_addToLine 34 = .ok (.lload_n 2, 1) := by decide +kernel
theorem zd_Ma_addToLine_35 : decode zc_Ma_addToLine 35 = .ok (.l2i, 1) := by decide +kernel
theorem zd_Ma_addToLine_36 : decode zc_Ma_addToLine 36 = .ok (.putfield 60, 3) := by decide +kernel
theorem zd_Ma_addToLine_39 : decode zc_Ma_addToLine 39 = .ok (.return_, 1) := by decide +kernel
theorem zd_Ma_addToAddress_0 : decode zc_Ma_addToAddress 0 = .ok (.aload_n 0, 1) := by decide +kernel
theorem zd_Ma_addToAddress_1 : decode zc_Ma_addToAddress 1 = .ok (.aload_n 0, 1) := by decide +kernel
theorem zd_Ma_addToAddress_2 : decode zc_Ma_addToAddress 2 = .ok (.getfield 53, 3) := by decide +kernel
theorem zd_Ma_addToAddress_5 : decode zc_Ma_addToAddress 5 = .ok (.i2l, 1) := by decide +kernel
theorem zd_Ma_addToAddress_6 : decode zc_Ma_addToAddress 6 = .ok (.lload_n 1, 1) := by decide +kernel
theorem zd_Ma_addToAddress_7 : decode zc_Ma_addToAddress 7 = .ok (.ladd, 1) := by decide +kernel
theorem zd_Ma_addToAddress_8 : decode zc_Ma_addToAddress 8 = .ok (.invokevirtual 137, 3) := by decide +kernel
theorem zd_Ma_addToAddress_11 : decode zc_Ma_addToAddress 11 = .ok (.return_, 1) := by decide +kernel
theorem zd_Ma_setAddress_0 : decode zc_Ma_setAddress 0 = .ok (.lload_n 1, 1) := by decide +kernel
theorem zd_Ma_setAddress_1 : decode zc_Ma_setAddress 1 = .ok (.ldc2_w 145, 3) := by decide +kernel
theorem zd_Ma_setAddress_4 : decode zc_Ma_setAddress 4 = .ok (.lcmp, 1) := by decide +kernel
theorem zd_Ma_setAddress_5 : decode zc_Ma_setAddress 5 = .ok (.ifCond .le 13, 3) := by decide +kernel
theorem zd_Ma_setAddress_8 : decode zc_Ma_setAddress 8 = .ok (.new 147, 3) := by decide +kernel
theorem zd_Ma_setAddress_11 : decode zc_Ma_setAddress 11 = .ok (.dup, 1) := by decide +kernel
theorem zd_Ma_setAddress_12 : decode zc_Ma_setAddress 12 = .ok (.ldc 152, 2) := by decide +kernel
theorem zd_Ma_setAddress_14 : decode zc_Ma_setAddress 14 = .ok (.invokespecial 151, 3) := by decide +kernel
theorem zd_Ma_setAddress_17 : decode zc_Ma_setAddress 17 = .ok (.athrow, 1) := by decide +kernel
theorem zd_Ma_setAddress_18 : decode zc_Ma_setAddress 18 = .ok (.aload_n 0, 1) := by decide +kernel
theorem zd_Ma_setAddress_19 : decode zc_Ma_setAddress 19 = .ok (.lload_n 1, 1) := by decide +kernel
theorem zd_Ma_setAddress_20 : decode zc_Ma_setAddress 20 = .ok (.l2i, 1) := by decide +kernel
theorem zd_Ma_setAddress_21 : decode zc_Ma_setAddress 21 = .ok (.putfield 53, 3) := by decide +kernel
theorem zd_Ma_setAddress_24 : decode zc_Ma_setAddress 24 = .ok (.return_, 1) := by decide +kernel
theorem zd_Ma_makeRow_0 : decode zc_Ma_makeRow 0 = .ok (.aload_n 0, 1) := by decide +kernel
theorem zd_Ma_makeRow_1 : decode zc_Ma_makeRow 1 = .ok (.iconst 0, 1) := by decide +kernel
theorem zd_Ma_makeRow_2 : decode zc_Ma_makeRow 2 = .ok (.invokevirtual 134, 3) := by decide +kernel
theorem zd_Ma_makeRow_5 : decode zc_Ma_makeRow 5 = .ok (.aload_n 0, 1) := by decide +kernel
theorem zd_Ma_makeRow_6 : decode zc_Ma_makeRow 6 = .ok (.iconst 0, 1) := by decide +kernel
theorem zd_Ma_makeRow_7 : decode zc_Ma_makeRow 7 = .ok (.putfield 74, 3) := by decide +kernel
theorem zd_Ma_makeRow_10 : decode zc_Ma_makeRow 10 = .ok (.return_, 1) := by decide +kernel
theorem zd_Ma_appendRow_0 : decode zc_Ma_appendRow 0 = .ok (.aload_n 0, 1) := by decide +kernel
theorem zd_Ma_appendRow_1 : decode zc_Ma_appendRow 1 = .ok (.getfield 53, 3) := by decide +kernel
theorem zd_Ma_appendRow_4 : decode zc_Ma_appendRow 4 = .ok (.aload_n 0, 1) := by decide +kernel
theorem zd_Ma_appendRow_5 : decode zc_Ma_appendRow 5 = .ok (.getfield 77, 3) := by decide +kernel
theorem zd_Ma_appendRow_8 : decode zc_Ma_appendRow 8 = .ok (.if_icmp .ge 13, 3) := by decide +kernel
theorem zd_Ma_appendRow_11 : decode zc_Ma_appendRow 11 = .ok (.new 154, 3) := by decide +kernel
theorem zd_Ma_appendRow_14 : decode zc_Ma_appendRow 14 = .ok (.dup, 1) := by decide +kernel
theorem zd_Ma_appendRow_15 : decode zc_Ma_appendRow 15 = .ok (.ldc 156, 2) := by decide +kernel
theorem zd_Ma_appendRow_17 : decode zc_Ma_appendRow 17 = .ok (.invokespecial 158, 3) := by decide +kernel
theorem zd_Ma_appendRow_20 : decode zc_Ma_appendRow 20 = .ok (.athrow, 1) := by decide +kernel
theorem zd_Ma_appendRow_21 : decode zc_Ma_appendRow 21 = .ok (.aload_n 0, 1) := by decide +kernel
theorem zd_Ma_appendRow_22 : decode zc_Ma_appendRow 22 = .ok (.getfield 24, 3) := by decide +kernel
theorem zd_Ma_appendRow_25 : decode zc_Ma_appendRow 25 = .ok (.getfield 159, 3) := by decide +kernel
theorem zd_Ma_appendRow_28 : decode zc_Ma_appendRow 28 = .ok (.bipush 90, 2) := by decide +kernel
theorem zd_Ma_appendRow_30 : decode zc_Ma_appendRow 30 = .ok (.if_icmp .lt 13, 3) := by decide +kernel
theorem zd_Ma_appendRow_33 : decode zc_Ma_appendRow 33 = .ok (.new 164, 3) := by decide +kernel
theorem zd_Ma_appendRow_36 : decode zc_Ma_appendRow 36 = .ok (.dup, 1) := by decide +kernel
theorem zd_Ma_appendRow_37 : decode zc_Ma_appendRow 37 = .ok (.ldc 166, 2) := by decide +kernel
theorem zd_Ma_appendRow_39 : decode zc_Ma_appendRow 39 = .ok (.invokespecial 168, 3) := by decide +kernel
theorem zd_Ma_appendRow_42 : decode zc_Ma_appendRow 42 = .ok (.athrow, 1) := by decide +kernel
theorem zd_Ma_appendRow_43 : decode zc_Ma_appendRow 43 = .ok (.aload_n 0, 1) := by decide +kernel
theorem zd_Ma_appendRow_44 : decode zc_Ma_appendRow 44 = .ok (.getfield 24, 3) := by decide +kernel
theorem zd_Ma_appendRow_47 : decode zc_Ma_appendRow 47 = .ok (.getfield 159, 3) := by decide +kernel
theorem zd_Ma_appendRow_50 : decode zc_Ma_appendRow 50 = .ok (.istore_n 2, 1) := by decide +kernel
theorem zd_Ma_appendRow_51 : decode zc_Ma_appendRow 51 = .ok (.aload_n 0, 1) := by decide +kernel
theorem zd_Ma_appendRow_52 : decode zc_Ma_appendRow 52 = .ok (.getfield 24, 3) := by decide +kernel
theorem zd_Ma_appendRow_55 : decode zc_Ma_appendRow 55 = .ok (.iload_n 2, 1) := by decide +kernel
theorem zd_Ma_appendRow_56 : decode zc_Ma_appendRow 56 = .ok (.iconst 0, 1) := by decide +kernel
theorem zd_Ma_appendRow_57 : decode zc_Ma_appendRow 57 = .ok (.aload_n 0, 1) := by decide +kernel
theorem zd_Ma_appendRow_58 : decode zc_Ma_appendRow 58 = .ok (.getfield 53, 3) := by decide +kernel
theorem zd_Ma_appendRow_61 : decode zc_Ma_appendRow 61 = .ok (.invokevirtual 169, 3) := by decide +kernel
theorem zd_Ma_appendRow_64 : decode zc_Ma_appendRow 64 = .ok (.aload_n 0, 1) := by decide +kernel
theorem zd_Ma_appendRow_65 : decode zc_Ma_appendRow 65 = .ok (.getfield 24, 3) := by decide +kernel
theorem zd_Ma_appendRow_68 : decode zc_Ma_appendRow 68 = .ok (.iload_n 2, 1) := by decide +kernel
theorem zd_Ma_appendRow_69 : decode zc_Ma_appendRow 69 = .ok (.iconst 1, 1) := by decide +kernel
theorem zd_Ma_appendRow_70 : decode zc_Ma_appendRow 70 = .ok (.aload_n 0, 1) := by decide +kernel
theorem zd_Ma_appendRow_71 : decode zc_Ma_appendRow 71 = .ok (.getfield 57, 3) := by decide +kernel
theorem zd_Ma_appendRow_74 : decode zc_Ma_appendRow 74 = .ok (.invokevirtual 169, 3) := by decide +kernel
theorem zd_Ma_appendRow_77 : decode zc_Ma_appendRow 77 = .ok (.aload_n 0, 1) := by decide +kernel
theorem zd_Ma_appendRow_78 : decode zc_Ma_appendRow 78 = .ok (.getfield 24, 3) := by decide +kernel
theorem zd_Ma_appendRow_81 : decode zc_Ma_appendRow 81 = .ok (.iload_n 2, 1) := by decide +kernel
theorem zd_Ma_appendRow_82 : decode zc_Ma_appendRow 82 = .ok (.iconst 2, 1) := by decide +kernel
theorem zd_Ma_appendRow_83 : decode zc_Ma_appendRow 83 = .ok (.aload_n 0, 1) := by decide +kernel
theorem zd_Ma_appendRow_84 : decode zc_Ma_appendRow 84 = .ok (.getfield 60, 3) := by decide +kernel
theorem zd_Ma_appendRow_87 : decode zc_Ma_appendRow 87 = .ok (.invokevirtual 169, 3) := by decide +kernel
theorem zd_Ma_appendRow_90 : decode zc_Ma_appendRow 90 = .ok (.aload_n 0, 1) := by decide +kernel
