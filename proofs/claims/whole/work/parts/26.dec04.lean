theorem zd_Ma_appendRow_91 : decode zc_Ma_appendRow 91 = .ok (.getfield 24, 3) := by decide +kernel
theorem zd_Ma_appendRow_94 : decode zc_Ma_appendRow 94 = .ok (.iload_n 2, 1) := by decide +kernel
theorem zd_Ma_appendRow_95 : decode zc_Ma_appendRow 95 = .ok (.iconst 3, 1) := by decide +kernel
theorem zd_Ma_appendRow_96 : decode zc_Ma_appendRow 96 = .ok (.aload_n 0, 1) := by decide +kernel
theorem zd_Ma_appendRow_97 : decode zc_Ma_appendRow 97 = .ok (.getfield 63, 3) := by decide +kernel
theorem zd_Ma_appendRow_100 : decode zc_Ma_appendRow 100 = .ok (.invokevirtual 169, 3) := by decide +kernel
theorem zd_Ma_appendRow_103 : decode zc_Ma_appendRow 103 = .ok (.aload_n 0, 1) := by decide +kernel
theorem zd_Ma_appendRow_104 : decode zc_Ma_appendRow 104 = .ok (.getfield 24, 3) := by decide +kernel
theorem zd_Ma_appendRow_107 : decode zc_Ma_appendRow 107 = .ok (.iload_n 2, 1) := by decide +kernel
theorem zd_Ma_appendRow_108 : decode zc_Ma_appendRow 108 = .ok (.iconst 4, 1) := by decide +kernel
theorem zd_Ma_appendRow_109 : decode zc_Ma_appendRow 109 = .ok (.aload_n 0, 1) := by decide +kernel
theorem zd_Ma_appendRow_110 : decode zc_Ma_appendRow 110 = .ok (.getfield 71, 3) := by decide +kernel
theorem zd_Ma_appendRow_113 : decode zc_Ma_appendRow 113 = .ok (.invokevirtual 169, 3) := by decide +kernel
theorem zd_Ma_appendRow_116 : decode zc_Ma_appendRow 116 = .ok (.aload_n 0, 1) := by decide +kernel
theorem zd_Ma_appendRow_117 : decode zc_Ma_appendRow 117 = .ok (.getfield 24, 3) := by decide +kernel
theorem zd_Ma_appendRow_120 : decode zc_Ma_appendRow 120 = .ok (.iload_n 2, 1) := by decide +kernel
theorem zd_Ma_appendRow_121 : decode zc_Ma_appendRow 121 = .ok (.iconst 5, 1) := by decide +kernel
theorem zd_Ma_appendRow_122 : decode zc_Ma_appendRow 122 = .ok (.aload_n 0, 1) := by decide +kernel
theorem zd_Ma_appendRow_123 : decode zc_Ma_appendRow 123 = .ok (.getfield 74, 3) := by decide +kernel
theorem zd_Ma_appendRow_126 : decode zc_Ma_appendRow 126 = .ok (.invokevirtual 169, 3) := by decide +kernel
theorem zd_Ma_appendRow_129 : decode zc_Ma_appendRow 129 = .ok (.aload_n 0, 1) := by decide +kernel
theorem zd_Ma_appendRow_130 : decode zc_Ma_appendRow 130 = .ok (.getfield 24, 3) := by decide +kernel
theorem zd_Ma_appendRow_133 : decode zc_Ma_appendRow 133 = .ok (.iload_n 2, 1) := by decide +kernel
theorem zd_Ma_appendRow_134 : decode zc_Ma_appendRow 134 = .ok (.bipush 6, 2) := by decide +kernel
theorem zd_Ma_appendRow_136 : decode zc_Ma_appendRow 136 = .ok (.iload_n 1, 1) := by decide +kernel
theorem zd_Ma_appendRow_137 : decode zc_Ma_appendRow 137 = .ok (.invokevirtual 169, 3) := by decide +kernel
theorem zd_Ma_appendRow_140 : decode zc_Ma_appendRow 140 = .ok (.aload_n 0, 1) := by decide +kernel
theorem zd_Ma_appendRow_141 : decode zc_Ma_appendRow 141 = .ok (.getfield 24, 3) := by decide +kernel
theorem zd_Ma_appendRow_144 : decode zc_Ma_appendRow 144 = .ok (.dup, 1) := by decide +kernel
theorem zd_Ma_appendRow_145 : decode zc_Ma_appendRow 145 = .ok (.getfield 159, 3) := by decide +kernel
theorem zd_Ma_appendRow_148 : decode zc_Ma_appendRow 148 = .ok (.iconst 1, 1) := by decide +kernel
theorem zd_Ma_appendRow_149 : decode zc_Ma_appendRow 149 = .ok (.iadd, 1) := by decide +kernel
theorem zd_Ma_appendRow_150 : decode zc_Ma_appendRow 150 = .ok (.putfield 159, 3) := by decide +kernel
theorem zd_Ma_appendRow_153 : decode zc_Ma_appendRow 153 = .ok (.aload_n 0, 1) := by decide +kernel
theorem zd_Ma_appendRow_154 : decode zc_Ma_appendRow 154 = .ok (.aload_n 0, 1) := by decide +kernel
theorem zd_Ma_appendRow_155 : decode zc_Ma_appendRow 155 = .ok (.getfield 53, 3) := by decide +kernel
theorem zd_Ma_appendRow_158 : decode zc_Ma_appendRow 158 = .ok (.putfield 77, 3) := by decide +kernel
theorem zd_Ma_appendRow_161 : decode zc_Ma_appendRow 161 = .ok (.return_, 1) := by decide +kernel
theorem zd_Ro_set_0 : decode zc_Ro_set 0 = .ok (.aload_n 0, 1) := by decide +kernel
theorem zd_Ro_set_1 : decode zc_Ro_set 1 = .ok (.getfield 9, 3) := by decide +kernel
theorem zd_Ro_set_4 : decode zc_Ro_set 4 = .ok (.iload_n 1, 1) := by decide +kernel
theorem zd_Ro_set_5 : decode zc_Ro_set 5 = .ok (.bipush 7, 2) := by decide +kernel
theorem zd_Ro_set_7 : decode zc_Ro_set 7 = .ok (.imul, 1) := by decide +kernel
theorem zd_Ro_set_8 : decode zc_Ro_set 8 = .ok (.iload_n 2, 1) := by decide +kernel
theorem zd_Ro_set_9 : decode zc_Ro_set 9 = .ok (.iadd, 1) := by decide +kernel
theorem zd_Ro_set_10 : decode zc_Ro_set 10 = .ok (.iload_n 3, 1) := by decide +kernel
theorem zd_Ro_set_11 : decode zc_Ro_set 11 = .ok (.iastore, 1) := by decide +kernel
theorem zd_Ro_set_12 : decode zc_Ro_set 12 = .ok (.return_, 1) := by decide +kernel
theorem zd_Ma_doExtended_0 : decode zc_Ma_doExtended 0 = .ok (.aload_n 0, 1) := by decide +kernel
theorem zd_Ma_doExtended_1 : decode zc_Ma_doExtended 1 = .ok (.getfield 20, 3) := by decide +kernel
theorem zd_Ma_doExtended_4 : decode zc_Ma_doExtended 4 = .ok (.invokevirtual 92, 3) := by decide +kernel
theorem zd_Ma_doExtended_7 : decode zc_Ma_doExtended 7 = .ok (.istore_n 1, 1) := by decide +kernel
theorem zd_Ma_doExtended_8 : decode zc_Ma_doExtended 8 = .ok (.iload_n 1, 1) := by decide +kernel
theorem zd_Ma_doExtended_9 : decode zc_Ma_doExtended 9 = .ok (.aload_n 0, 1) := by decide +kernel
theorem zd_Ma_doExtended_10 : decode zc_Ma_doExtended 10 = .ok (.getfield 20, 3) := by decide +kernel
theorem zd_Ma_doExtended_13 : decode zc_Ma_doExtended 13 = .ok (.invokevirtual 31, 3) := by decide +kernel
theorem zd_Ma_doExtended_16 : decode zc_Ma_doExtended 16 = .ok (.if_icmp .le 13, 3) := by decide +kernel
theorem zd_Ma_doExtended_19 : decode zc_Ma_doExtended 19 = .ok (.new 118, 3) := by decide +kernel
theorem zd_Ma_doExtended_22 : decode zc_Ma_doExtended 22 = .ok (.dup, 1) := by decide +kernel
theorem zd_Ma_doExtended_23 : decode zc_Ma_doExtended 23 = .ok (.ldc 120, 2) := by decide +kernel
theorem zd_Ma_doExtended_25 : decode zc_Ma_doExtended 25 = .ok (.invokespecial 122, 3) := by decide +kernel
theorem zd_Ma_doExtended_28 : decode zc_Ma_doExtended 28 = .ok (.athrow, 1) := by decide +kernel
theorem zd_Ma_doExtended_29 : decode zc_Ma_doExtended 29 = .ok (.iload_n 1, 1) := by decide +kernel
theorem zd_Ma_doExtended_30 : decode zc_Ma_doExtended 30 = .ok (.ifCond .ne 13, 3) := by decide +kernel
theorem zd_Ma_doExtended_33 : decode zc_Ma_doExtended 33 = .ok (.new 123, 3) := by decide +kernel
theorem zd_Ma_doExtended_36 : decode zc_Ma_doExtended 36 = .ok (.dup, 1) := by decide +kernel
theorem zd_Ma_doExtended_37 : decode zc_Ma_doExtended 37 = .ok (.ldc 125, 2) := by decide +kernel
theorem zd_Ma_doExtended_39 : decode zc_Ma_doExtended 39 = .ok (.invokespecial 127, 3) := by decide +kernel
theorem zd_Ma_doExtended_42 : decode zc_Ma_doExtended 42 = .ok (.athrow, 1) := by decide +kernel
theorem zd_Ma_doExtended_43 : decode zc_Ma_doExtended 43 = .ok (.aload_n 0, 1) := by decide +kernel
theorem zd_Ma_doExtended_44 : decode zc_Ma_doExtended 44 = .ok (.getfield 20, 3) := by decide +kernel
theorem zd_Ma_doExtended_47 : decode zc_Ma_doExtended 47 = .ok (.invokevirtual 39, 3) := by decide +kernel
theorem zd_Ma_doExtended_50 : decode zc_Ma_doExtended 50 = .ok (.istore_n 2, 1) := by decide +kernel
theorem zd_Ma_doExtended_51 : decode zc_Ma_doExtended 51 = .ok (.iload_n 2, 1) := by decide +kernel
theorem zd_Ma_doExtended_52 : decode zc_Ma_doExtended 52 = .ok (.tableswitch 75 0 2 #[28, 38, 55], 28) := by decide +kernel
theorem zd_Ma_doExtended_80 : decode zc_Ma_doExtended 80 = .ok (.new 123, 3) := by decide +kernel
theorem zd_Ma_doExtended_83 : decode zc_Ma_doExtended 83 = .ok (.dup, 1) := by decide +kernel
theorem zd_Ma_doExtended_84 : decode zc_Ma_doExtended 84 = .ok (.ldc 128, 2) := by decide +kernel
theorem zd_Ma_doExtended_86 : decode zc_Ma_doExtended 86 = .ok (.invokespecial 127, 3) := by decide +kernel
theorem zd_Ma_doExtended_89 : decode zc_Ma_doExtended 89 = .ok (.athrow, 1) := by decide +kernel
theorem zd_Ma_doExtended_90 : decode zc_Ma_doExtended 90 = .ok (.iload_n 1, 1) := by decide +kernel
theorem zd_Ma_doExtended_91 : decode zc_Ma_doExtended 91 = .ok (.iconst 1, 1) := by decide +kernel
theorem zd_Ma_doExtended_92 : decode zc_Ma_doExtended 92 = .ok (.invokestatic 130, 3) := by decide +kernel
theorem zd_Ma_doExtended_95 : decode zc_Ma_doExtended 95 = .ok (.aload_n 0, 1) := by decide +kernel
theorem zd_Ma_doExtended_96 : decode zc_Ma_doExtended 96 = .ok (.iconst 1, 1) := by decide +kernel
theorem zd_Ma_doExtended_97 : decode zc_Ma_doExtended 97 = .ok (.invokevirtual 134, 3) := by decide +kernel
theorem zd_Ma_doExtended_100 : decode zc_Ma_doExtended 100 = .ok (.aload_n 0, 1) := by decide +kernel
theorem zd_Ma_doExtended_101 : decode zc_Ma_doExtended 101 = .ok (.invokevirtual 28, 3) := by decide +kernel
theorem zd_Ma_doExtended_104 : decode zc_Ma_doExtended 104 = .ok (.goto 33, 3) := by decide +kernel
theorem zd_Ma_doExtended_107 : decode zc_Ma_doExtended 107 = .ok (.iload_n 1, 1) := by decide +kernel
theorem zd_Ma_doExtended_108 : decode zc_Ma_doExtended 108 = .ok (.iconst 5, 1) := by decide +kernel
theorem zd_Ma_doExtended_109 : decode zc_Ma_doExtended 109 = .ok (.invokestatic 130, 3) := by decide +kernel
theorem zd_Ma_doExtended_112 : decode zc_Ma_doExtended 112 = .ok (.aload_n 0, 1) := by decide +kernel
theorem zd_Ma_doExtended_113 : decode zc_Ma_doExtended 113 = .ok (.aload_n 0, 1) := by decide +kernel
theorem zd_Ma_doExtended_114 : decode zc_Ma_doExtended 114 = .ok (.getfield 20, 3) := by decide +kernel
theorem zd_Ma_doExtended_117 : decode zc_Ma_doExtended 117 = .ok (.iconst 4, 1) := by decide +kernel
theorem zd_Ma_doExtended_118 : decode zc_Ma_doExtended 118 = .ok (.invokevirtual 108, 3) := by decide +kernel
theorem zd_Ma_doExtended_121 : decode zc_Ma_doExtended 121 = .ok (.invokevirtual 137, 3) := by decide +kernel
theorem zd_Ma_doExtended_124 : decode zc_Ma_doExtended 124 = .ok (.goto 13, 3) := by decide +kernel
theorem zd_Ma_doExtended_127 : decode zc_Ma_doExtended 127 = .ok (.aload_n 0, 1) := by decide +kernel
theorem zd_Ma_doExtended_128 : decode zc_Ma_doExtended 128 = .ok (.getfield 20, 3) := by decide +kernel
theorem zd_Ma_doExtended_131 : decode zc_Ma_doExtended 131 = .ok (.iload_n 1, 1) := by decide +kernel
theorem zd_Ma_doExtended_132 : decode zc_Ma_doExtended 132 = .ok (.iconst 1, 1) := by decide +kernel
theorem zd_Ma_doExtended_133 : decode zc_Ma_doExtended 133 = .ok (.isub, 1) := by decide +kernel
theorem zd_Ma_doExtended_134 : decode zc_Ma_doExtended 134 = .ok (.invokevirtual 140, 3) := by decide +kernel
theorem zd_Ma_doExtended_137 : decode zc_Ma_doExtended 137 = .ok (.return_, 1) := by decide +kernel
theorem zd_Re_nextUnsigned_0 : decode zc_Re_nextUnsigned 0 = .ok (.aload_n 0, 1) := by decide +kernel
theorem zd_Re_nextUnsigned_1 : decode zc_Re_nextUnsigned 1 = .ok (.iconst 0, 1) := by decide +kernel
theorem zd_Re_nextUnsigned_2 : decode zc_Re_nextUnsigned 2 = .ok (.invokevirtual 35, 3) := by decide +kernel
theorem zd_Re_nextUnsigned_5 : decode zc_Re_nextUnsigned 5 = .ok (.ireturn, 1) := by decide +kernel
theorem zd_Re_nextNumber_0 : decode zc_Re_nextNumber 0 = .ok (.lconst 0, 1) := by decide +kernel
theorem zd_Re_nextNumber_1 : decode zc_Re_nextNumber 1 = .ok (.lstore_n 2, 1) := by decide +kernel
theorem zd_Re_nextNumber_2 : decode zc_Re_nextNumber 2 = .ok (.iconst 0, 1) := by decide +kernel
theorem zd_Re_nextNumber_3 : decode zc_Re_nextNumber 3 = .ok (.istore 4, 2) := by decide +kernel
theorem zd_Re_nextNumber_5 : decode zc_Re_nextNumber 5 = .ok (.iload 4, 2) := by decide +kernel
theorem zd_Re_nextNumber_7 : decode zc_Re_nextNumber 7 = .ok (.iconst 5, 1) := by decide +kernel
theorem zd_Re_nextNumber_8 : decode zc_Re_nextNumber 8 = .ok (.if_icmp .ge 81, 3) := by decide +kernel
theorem zd_Re_nextNumber_11 : decode zc_Re_nextNumber 11 = .ok (.aload_n 0, 1) := by decide +kernel
theorem zd_Re_nextNumber_12 : decode zc_Re_nextNumber 12 = .ok (.invokevirtual 39, 3) := by decide +kernel
theorem zd_Re_nextNumber_15 : decode zc_Re_nextNumber 15 = .ok (.istore 5, 2) := by decide +kernel
theorem zd_Re_nextNumber_17 : decode zc_Re_nextNumber 17 = .ok (.lload_n 2, 1) := by decide +kernel
theorem zd_Re_nextNumber_18 : decode zc_Re_nextNumber 18 = .ok (.iload 5, 2) := by decide +kernel
theorem zd_Re_nextNumber_20 : decode zc_Re_nextNumber 20 = .ok (.bipush 127, 2) := by decide +kernel
theorem zd_Re_nextNumber_22 : decode zc_Re_nextNumber 22 = .ok (.iand, 1) := by decide +kernel
theorem zd_Re_nextNumber_23 : decode zc_Re_nextNumber 23 = .ok (.i2l, 1) := by decide +kernel
theorem zd_Re_nextNumber_24 : decode zc_Re_nextNumber 24 = .ok (.bipush 7, 2) := by decide +kernel
theorem zd_Re_nextNumber_26 : decode zc_Re_nextNumber 26 = .ok (.iload 4, 2) := by decide +kernel
theorem zd_Re_nextNumber_28 : decode zc_Re_nextNumber 28 = .ok (.imul, 1) := by decide +kernel
theorem zd_Re_nextNumber_29 : decode zc_Re_nextNumber 29 = .ok (.lshl, 1) := by decide +kernel
theorem zd_Re_nextNumber_30 : decode zc_Re_nextNumber 30 = .ok (.lor, 1) := by decide +kernel
theorem zd_Re_nextNumber_31 : decode zc_Re_nextNumber 31 = .ok (.lstore_n 2, 1) := by decide +kernel
theorem zd_Re_nextNumber_32 : decode zc_Re_nextNumber 32 = .ok (.iload 5, 2) := by decide +kernel
theorem zd_Re_nextNumber_34 : decode zc_Re_nextNumber 34 = .ok (.sipush 128, 3) := by decide +kernel
theorem zd_Re_nextNumber_37 : decode zc_Re_nextNumber 37 = .ok (.if_icmp .ge 46, 3) := by decide +kernel
theorem zd_Re_nextNumber_40 : decode zc_Re_nextNumber 40 = .ok (.iload_n 1, 1) := by decide +kernel
theorem zd_Re_nextNumber_41 : decode zc_Re_nextNumber 41 = .ok (.ifCond .eq 15, 3) := by decide +kernel
theorem zd_Re_nextNumber_44 : decode zc_Re_nextNumber 44 = .ok (.iload 5, 2) := by decide +kernel
theorem zd_Re_nextNumber_46 : decode zc_Re_nextNumber 46 = .ok (.bipush 64, 2) := by decide +kernel
theorem zd_Re_nextNumber_48 : decode zc_Re_nextNumber 48 = .ok (.iand, 1) := by decide +kernel
theorem zd_Re_nextNumber_49 : decode zc_Re_nextNumber 49 = .ok (.ifCond .eq 7, 3) := by decide +kernel
theorem zd_Re_nextNumber_52 : decode zc_Re_nextNumber 52 = .ok (.iconst 1, 1) := by decide +kernel
theorem zd_Re_nextNumber_53 : decode zc_Re_nextNumber 53 = .ok (.goto 4, 3) := by decide +kernel
theorem zd_Re_nextNumber_56 : decode zc_Re_nextNumber 56 = .ok (.iconst 0, 1) := by decide +kernel
theorem zd_Re_nextNumber_57 : decode zc_Re_nextNumber 57 = .ok (.istore 6, 2) := by decide +kernel
theorem zd_Re_nextNumber_59 : decode zc_Re_nextNumber 59 = .ok (.iload 6, 2) := by decide +kernel
theorem zd_Re_nextNumber_61 : decode zc_Re_nextNumber 61 = .ok (.ifCond .eq 17, 3) := by decide +kernel
theorem zd_Re_nextNumber_64 : decode zc_Re_nextNumber 64 = .ok (.lload_n 2, 1) := by decide +kernel
theorem zd_Re_nextNumber_65 : decode zc_Re_nextNumber 65 = .ok (.ldc2_w 43, 3) := by decide +kernel
theorem zd_Re_nextNumber_68 : decode zc_Re_nextNumber 68 = .ok (.bipush 7, 2) := by decide +kernel
theorem zd_Re_nextNumber_70 : decode zc_Re_nextNumber 70 = .ok (.iload 4, 2) := by decide +kernel
