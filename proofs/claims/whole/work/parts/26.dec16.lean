theorem zd_Mo_write_240 : decode zc_Mo_write 240 = .ok (.aload_n 0, 1) := by decide +kernel
theorem zd_Mo_write_241 : decode zc_Mo_write 241 = .ok (.getfield 41, 3) := by decide +kernel
theorem zd_Mo_write_244 : decode zc_Mo_write 244 = .ok (.ireturn, 1) := by decide +kernel
theorem zd_Mo_add_0 : decode zc_Mo_add 0 = .ok (.aload_n 0, 1) := by decide +kernel
theorem zd_Mo_add_1 : decode zc_Mo_add 1 = .ok (.getfield 128, 3) := by decide +kernel
theorem zd_Mo_add_4 : decode zc_Mo_add 4 = .ok (.sipush 600, 3) := by decide +kernel
theorem zd_Mo_add_7 : decode zc_Mo_add 7 = .ok (.if_icmp .ge 18, 3) := by decide +kernel
theorem zd_Mo_add_10 : decode zc_Mo_add 10 = .ok (.aload_n 0, 1) := by decide +kernel
theorem zd_Mo_add_11 : decode zc_Mo_add 11 = .ok (.getfield 35, 3) := by decide +kernel
theorem zd_Mo_add_14 : decode zc_Mo_add 14 = .ok (.aload_n 0, 1) := by decide +kernel
theorem zd_Mo_add_15 : decode zc_Mo_add 15 = .ok (.getfield 128, 3) := by decide +kernel
theorem zd_Mo_add_18 : decode zc_Mo_add 18 = .ok (.lload_n 1, 1) := by decide +kernel
theorem zd_Mo_add_19 : decode zc_Mo_add 19 = .ok (.ldc2_w 131, 3) := by decide +kernel
theorem zd_Mo_add_22 : decode zc_Mo_add 22 = .ok (.land, 1) := by decide +kernel
theorem zd_Mo_add_23 : decode zc_Mo_add 23 = .ok (.l2i, 1) := by decide +kernel
theorem zd_Mo_add_24 : decode zc_Mo_add 24 = .ok (.iastore, 1) := by decide +kernel
theorem zd_Mo_add_25 : decode zc_Mo_add 25 = .ok (.aload_n 0, 1) := by decide +kernel
theorem zd_Mo_add_26 : decode zc_Mo_add 26 = .ok (.dup, 1) := by decide +kernel
theorem zd_Mo_add_27 : decode zc_Mo_add 27 = .ok (.getfield 128, 3) := by decide +kernel
theorem zd_Mo_add_30 : decode zc_Mo_add 30 = .ok (.iconst 1, 1) := by decide +kernel
theorem zd_Mo_add_31 : decode zc_Mo_add 31 = .ok (.iadd, 1) := by decide +kernel
theorem zd_Mo_add_32 : decode zc_Mo_add 32 = .ok (.putfield 128, 3) := by decide +kernel
theorem zd_Mo_add_35 : decode zc_Mo_add 35 = .ok (.return_, 1) := by decide +kernel
theorem zd_Mo_writeEntry_0 : decode zc_Mo_writeEntry 0 = .ok (.aload_n 0, 1) := by decide +kernel
theorem zd_Mo_writeEntry_1 : decode zc_Mo_writeEntry 1 = .ok (.getfield 32, 3) := by decide +kernel
theorem zd_Mo_writeEntry_4 : decode zc_Mo_writeEntry 4 = .ok (.iload_n 1, 1) := by decide +kernel
theorem zd_Mo_writeEntry_5 : decode zc_Mo_writeEntry 5 = .ok (.iconst 1, 1) := by decide +kernel
theorem zd_Mo_writeEntry_6 : decode zc_Mo_writeEntry 6 = .ok (.iadd, 1) := by decide +kernel
theorem zd_Mo_writeEntry_7 : decode zc_Mo_writeEntry 7 = .ok (.iaload, 1) := by decide +kernel
theorem zd_Mo_writeEntry_8 : decode zc_Mo_writeEntry 8 = .ok (.i2l, 1) := by decide +kernel
theorem zd_Mo_writeEntry_9 : decode zc_Mo_writeEntry 9 = .ok (.aload_n 0, 1) := by decide +kernel
theorem zd_Mo_writeEntry_10 : decode zc_Mo_writeEntry 10 = .ok (.getfield 66, 3) := by decide +kernel
theorem zd_Mo_writeEntry_13 : decode zc_Mo_writeEntry 13 = .ok (.lcmp, 1) := by decide +kernel
theorem zd_Mo_writeEntry_14 : decode zc_Mo_writeEntry 14 = .ok (.ifCond .eq 17, 3) := by decide +kernel
theorem zd_Mo_writeEntry_17 : decode zc_Mo_writeEntry 17 = .ok (.aload_n 0, 1) := by decide +kernel
theorem zd_Mo_writeEntry_18 : decode zc_Mo_writeEntry 18 = .ok (.iconst 4, 1) := by decide +kernel
theorem zd_Mo_writeEntry_19 : decode zc_Mo_writeEntry 19 = .ok (.aload_n 0, 1) := by decide +kernel
theorem zd_Mo_writeEntry_20 : decode zc_Mo_writeEntry 20 = .ok (.getfield 32, 3) := by decide +kernel
theorem zd_Mo_writeEntry_23 : decode zc_Mo_writeEntry 23 = .ok (.iload_n 1, 1) := by decide +kernel
theorem zd_Mo_writeEntry_24 : decode zc_Mo_writeEntry 24 = .ok (.iconst 1, 1) := by decide +kernel
theorem zd_Mo_writeEntry_25 : decode zc_Mo_writeEntry 25 = .ok (.iadd, 1) := by decide +kernel
theorem zd_Mo_writeEntry_26 : decode zc_Mo_writeEntry 26 = .ok (.iaload, 1) := by decide +kernel
theorem zd_Mo_writeEntry_27 : decode zc_Mo_writeEntry 27 = .ok (.i2l, 1) := by decide +kernel
theorem zd_Mo_writeEntry_28 : decode zc_Mo_writeEntry 28 = .ok (.invokevirtual 145, 3) := by decide +kernel
theorem zd_Mo_writeEntry_31 : decode zc_Mo_writeEntry 31 = .ok (.aload_n 0, 1) := by decide +kernel
theorem zd_Mo_writeEntry_32 : decode zc_Mo_writeEntry 32 = .ok (.getfield 32, 3) := by decide +kernel
theorem zd_Mo_writeEntry_35 : decode zc_Mo_writeEntry 35 = .ok (.iload_n 1, 1) := by decide +kernel
theorem zd_Mo_writeEntry_36 : decode zc_Mo_writeEntry 36 = .ok (.iconst 3, 1) := by decide +kernel
theorem zd_Mo_writeEntry_37 : decode zc_Mo_writeEntry 37 = .ok (.iadd, 1) := by decide +kernel
theorem zd_Mo_writeEntry_38 : decode zc_Mo_writeEntry 38 = .ok (.iaload, 1) := by decide +kernel
theorem zd_Mo_writeEntry_39 : decode zc_Mo_writeEntry 39 = .ok (.i2l, 1) := by decide +kernel
theorem zd_Mo_writeEntry_40 : decode zc_Mo_writeEntry 40 = .ok (.aload_n 0, 1) := by decide +kernel
theorem zd_Mo_writeEntry_41 : decode zc_Mo_writeEntry 41 = .ok (.getfield 72, 3) := by decide +kernel
theorem zd_Mo_writeEntry_44 : decode zc_Mo_writeEntry 44 = .ok (.lcmp, 1) := by decide +kernel
theorem zd_Mo_writeEntry_45 : decode zc_Mo_writeEntry 45 = .ok (.ifCond .eq 17, 3) := by decide +kernel
theorem zd_Mo_writeEntry_48 : decode zc_Mo_writeEntry 48 = .ok (.aload_n 0, 1) := by decide +kernel
theorem zd_Mo_writeEntry_49 : decode zc_Mo_writeEntry 49 = .ok (.iconst 5, 1) := by decide +kernel
theorem zd_Mo_writeEntry_50 : decode zc_Mo_writeEntry 50 = .ok (.aload_n 0, 1) := by decide +kernel
theorem zd_Mo_writeEntry_51 : decode zc_Mo_writeEntry 51 = .ok (.getfield 32, 3) := by decide +kernel
theorem zd_Mo_writeEntry_54 : decode zc_Mo_writeEntry 54 = .ok (.iload_n 1, 1) := by decide +kernel
theorem zd_Mo_writeEntry_55 : decode zc_Mo_writeEntry 55 = .ok (.iconst 3, 1) := by decide +kernel
theorem zd_Mo_writeEntry_56 : decode zc_Mo_writeEntry 56 = .ok (.iadd, 1) := by decide +kernel
theorem zd_Mo_writeEntry_57 : decode zc_Mo_writeEntry 57 = .ok (.iaload, 1) := by decide +kernel
theorem zd_Mo_writeEntry_58 : decode zc_Mo_writeEntry 58 = .ok (.i2l, 1) := by decide +kernel
theorem zd_Mo_writeEntry_59 : decode zc_Mo_writeEntry 59 = .ok (.invokevirtual 145, 3) := by decide +kernel
theorem zd_Mo_writeEntry_62 : decode zc_Mo_writeEntry 62 = .ok (.aload_n 0, 1) := by decide +kernel
theorem zd_Mo_writeEntry_63 : decode zc_Mo_writeEntry 63 = .ok (.getfield 32, 3) := by decide +kernel
theorem zd_Mo_writeEntry_66 : decode zc_Mo_writeEntry 66 = .ok (.iload_n 1, 1) := by decide +kernel
theorem zd_Mo_writeEntry_67 : decode zc_Mo_writeEntry 67 = .ok (.iconst 4, 1) := by decide +kernel
theorem zd_Mo_writeEntry_68 : decode zc_Mo_writeEntry 68 = .ok (.iadd, 1) := by decide +kernel
theorem zd_Mo_writeEntry_69 : decode zc_Mo_writeEntry 69 = .ok (.iaload, 1) := by decide +kernel
theorem zd_Mo_writeEntry_70 : decode zc_Mo_writeEntry 70 = .ok (.aload_n 0, 1) := by decide +kernel
theorem zd_Mo_writeEntry_71 : decode zc_Mo_writeEntry 71 = .ok (.getfield 75, 3) := by decide +kernel
theorem zd_Mo_writeEntry_74 : decode zc_Mo_writeEntry 74 = .ok (.if_icmp .eq 10, 3) := by decide +kernel
theorem zd_Mo_writeEntry_77 : decode zc_Mo_writeEntry 77 = .ok (.aload_n 0, 1) := by decide +kernel
theorem zd_Mo_writeEntry_78 : decode zc_Mo_writeEntry 78 = .ok (.ldc2_w 149, 3) := by decide +kernel
theorem zd_Mo_writeEntry_81 : decode zc_Mo_writeEntry 81 = .ok (.invokevirtual 133, 3) := by decide +kernel
theorem zd_Mo_writeEntry_84 : decode zc_Mo_writeEntry 84 = .ok (.aload_n 0, 1) := by decide +kernel
theorem zd_Mo_writeEntry_85 : decode zc_Mo_writeEntry 85 = .ok (.getfield 32, 3) := by decide +kernel
theorem zd_Mo_writeEntry_88 : decode zc_Mo_writeEntry 88 = .ok (.iload_n 1, 1) := by decide +kernel
theorem zd_Mo_writeEntry_89 : decode zc_Mo_writeEntry 89 = .ok (.iaload, 1) := by decide +kernel
theorem zd_Mo_writeEntry_90 : decode zc_Mo_writeEntry 90 = .ok (.i2l, 1) := by decide +kernel
theorem zd_Mo_writeEntry_91 : decode zc_Mo_writeEntry 91 = .ok (.aload_n 0, 1) := by decide +kernel
theorem zd_Mo_writeEntry_92 : decode zc_Mo_writeEntry 92 = .ok (.getfield 62, 3) := by decide +kernel
theorem zd_Mo_writeEntry_95 : decode zc_Mo_writeEntry 95 = .ok (.lsub, 1) := by decide +kernel
theorem zd_Mo_writeEntry_96 : decode zc_Mo_writeEntry 96 = .ok (.lstore_n 2, 1) := by decide +kernel
theorem zd_Mo_writeEntry_97 : decode zc_Mo_writeEntry 97 = .ok (.aload_n 0, 1) := by decide +kernel
theorem zd_Mo_writeEntry_98 : decode zc_Mo_writeEntry 98 = .ok (.getfield 32, 3) := by decide +kernel
theorem zd_Mo_writeEntry_101 : decode zc_Mo_writeEntry 101 = .ok (.iload_n 1, 1) := by decide +kernel
theorem zd_Mo_writeEntry_102 : decode zc_Mo_writeEntry 102 = .ok (.iconst 2, 1) := by decide +kernel
theorem zd_Mo_writeEntry_103 : decode zc_Mo_writeEntry 103 = .ok (.iadd, 1) := by decide +kernel
theorem zd_Mo_writeEntry_104 : decode zc_Mo_writeEntry 104 = .ok (.iaload, 1) := by decide +kernel
theorem zd_Mo_writeEntry_105 : decode zc_Mo_writeEntry 105 = .ok (.i2l, 1) := by decide +kernel
theorem zd_Mo_writeEntry_106 : decode zc_Mo_writeEntry 106 = .ok (.aload_n 0, 1) := by decide +kernel
theorem zd_Mo_writeEntry_107 : decode zc_Mo_writeEntry 107 = .ok (.getfield 69, 3) := by decide +kernel
theorem zd_Mo_writeEntry_110 : decode zc_Mo_writeEntry 110 = .ok (.lsub, 1) := by decide +kernel
theorem zd_Mo_writeEntry_111 : decode zc_Mo_writeEntry 111 = .ok (.lstore 4, 2) := by decide +kernel
theorem zd_Mo_writeEntry_113 : decode zc_Mo_writeEntry 113 = .ok (.lload 4, 2) := by decide +kernel
theorem zd_Mo_writeEntry_115 : decode zc_Mo_writeEntry 115 = .ok (.aload_n 0, 1) := by decide +kernel
theorem zd_Mo_writeEntry_116 : decode zc_Mo_writeEntry 116 = .ok (.getfield 16, 3) := by decide +kernel
theorem zd_Mo_writeEntry_119 : decode zc_Mo_writeEntry 119 = .ok (.i2l, 1) := by decide +kernel
theorem zd_Mo_writeEntry_120 : decode zc_Mo_writeEntry 120 = .ok (.lcmp, 1) := by decide +kernel
theorem zd_Mo_writeEntry_121 : decode zc_Mo_writeEntry 121 = .ok (.ifCond .lt 19, 3) := by decide +kernel
theorem zd_Mo_writeEntry_124 : decode zc_Mo_writeEntry 124 = .ok (.lload 4, 2) := by decide +kernel
theorem zd_Mo_writeEntry_126 : decode zc_Mo_writeEntry 126 = .ok (.aload_n 0, 1) := by decide +kernel
theorem zd_Mo_writeEntry_127 : decode zc_Mo_writeEntry 127 = .ok (.getfield 16, 3) := by decide +kernel
theorem zd_Mo_writeEntry_130 : decode zc_Mo_writeEntry 130 = .ok (.aload_n 0, 1) := by decide +kernel
theorem zd_Mo_writeEntry_131 : decode zc_Mo_writeEntry 131 = .ok (.getfield 13, 3) := by decide +kernel
theorem zd_Mo_writeEntry_134 : decode zc_Mo_writeEntry 134 = .ok (.iadd, 1) := by decide +kernel
theorem zd_Mo_writeEntry_135 : decode zc_Mo_writeEntry 135 = .ok (.i2l, 1) := by decide +kernel
theorem zd_Mo_writeEntry_136 : decode zc_Mo_writeEntry 136 = .ok (.lcmp, 1) := by decide +kernel
theorem zd_Mo_writeEntry_137 : decode zc_Mo_writeEntry 137 = .ok (.ifCond .lt 13, 3) := by decide +kernel
theorem zd_Mo_writeEntry_140 : decode zc_Mo_writeEntry 140 = .ok (.aload_n 0, 1) := by decide +kernel
theorem zd_Mo_writeEntry_141 : decode zc_Mo_writeEntry 141 = .ok (.iconst 3, 1) := by decide +kernel
theorem zd_Mo_writeEntry_142 : decode zc_Mo_writeEntry 142 = .ok (.lload 4, 2) := by decide +kernel
theorem zd_Mo_writeEntry_144 : decode zc_Mo_writeEntry 144 = .ok (.invokevirtual 151, 3) := by decide +kernel
theorem zd_Mo_writeEntry_147 : decode zc_Mo_writeEntry 147 = .ok (.lconst 0, 1) := by decide +kernel
theorem zd_Mo_writeEntry_148 : decode zc_Mo_writeEntry 148 = .ok (.lstore 4, 2) := by decide +kernel
theorem zd_Mo_writeEntry_150 : decode zc_Mo_writeEntry 150 = .ok (.aload_n 0, 1) := by decide +kernel
theorem zd_Mo_writeEntry_151 : decode zc_Mo_writeEntry 151 = .ok (.invokevirtual 116, 3) := by decide +kernel
theorem zd_Mo_writeEntry_154 : decode zc_Mo_writeEntry 154 = .ok (.istore 6, 2) := by decide +kernel
theorem zd_Mo_writeEntry_156 : decode zc_Mo_writeEntry 156 = .ok (.aload_n 0, 1) := by decide +kernel
theorem zd_Mo_writeEntry_157 : decode zc_Mo_writeEntry 157 = .ok (.getfield 7, 3) := by decide +kernel
theorem zd_Mo_writeEntry_160 : decode zc_Mo_writeEntry 160 = .ok (.i2l, 1) := by decide +kernel
theorem zd_Mo_writeEntry_161 : decode zc_Mo_writeEntry 161 = .ok (.lload 4, 2) := by decide +kernel
theorem zd_Mo_writeEntry_163 : decode zc_Mo_writeEntry 163 = .ok (.ladd, 1) := by decide +kernel
theorem zd_Mo_writeEntry_164 : decode zc_Mo_writeEntry 164 = .ok (.aload_n 0, 1) := by decide +kernel
theorem zd_Mo_writeEntry_165 : decode zc_Mo_writeEntry 165 = .ok (.getfield 16, 3) := by decide +kernel
theorem zd_Mo_writeEntry_168 : decode zc_Mo_writeEntry 168 = .ok (.i2l, 1) := by decide +kernel
theorem zd_Mo_writeEntry_169 : decode zc_Mo_writeEntry 169 = .ok (.lsub, 1) := by decide +kernel
theorem zd_Mo_writeEntry_170 : decode zc_Mo_writeEntry 170 = .ok (.lstore 7, 2) := by decide +kernel
theorem zd_Mo_writeEntry_172 : decode zc_Mo_writeEntry 172 = .ok (.lload 7, 2) := by decide +kernel
theorem zd_Mo_writeEntry_174 : decode zc_Mo_writeEntry 174 = .ok (.aload_n 0, 1) := by decide +kernel
theorem zd_Mo_writeEntry_175 : decode zc_Mo_writeEntry 175 = .ok (.getfield 13, 3) := by decide +kernel
theorem zd_Mo_writeEntry_178 : decode zc_Mo_writeEntry 178 = .ok (.i2l, 1) := by decide +kernel
theorem zd_Mo_writeEntry_179 : decode zc_Mo_writeEntry 179 = .ok (.lload_n 2, 1) := by decide +kernel
theorem zd_Mo_writeEntry_180 : decode zc_Mo_writeEntry 180 = .ok (.lmul, 1) := by decide +kernel
theorem zd_Mo_writeEntry_181 : decode zc_Mo_writeEntry 181 = .ok (.ladd, 1) := by decide +kernel
theorem zd_Mo_writeEntry_182 : decode zc_Mo_writeEntry 182 = .ok (.ldc2_w 131, 3) := by decide +kernel
theorem zd_Mo_writeEntry_185 : decode zc_Mo_writeEntry 185 = .ok (.lcmp, 1) := by decide +kernel
theorem zd_Mo_writeEntry_186 : decode zc_Mo_writeEntry 186 = .ok (.ifCond .gt 20, 3) := by decide +kernel
theorem zd_Mo_writeEntry_189 : decode zc_Mo_writeEntry 189 = .ok (.aload_n 0, 1) := by decide +kernel
theorem zd_Mo_writeEntry_190 : decode zc_Mo_writeEntry 190 = .ok (.lload 7, 2) := by decide +kernel
theorem zd_Mo_writeEntry_192 : decode zc_Mo_writeEntry 192 = .ok (.aload_n 0, 1) := by decide +kernel
theorem zd_Mo_writeEntry_193 : decode zc_Mo_writeEntry 193 = .ok (.getfield 13, 3) := by decide +kernel
theorem zd_Mo_writeEntry_196 : decode zc_Mo_writeEntry 196 = .ok (.i2l, 1) := by decide +kernel
theorem zd_Mo_writeEntry_197 : decode zc_Mo_writeEntry 197 = .ok (.lload_n 2, 1) := by decide +kernel
theorem zd_Mo_writeEntry_198 : decode zc_Mo_writeEntry 198 = .ok (.lmul, 1) := by decide +kernel
theorem zd_Mo_writeEntry_199 : decode zc_Mo_writeEntry 199 = .ok (.ladd, 1) := by decide +kernel
theorem zd_Mo_writeEntry_200 : decode zc_Mo_writeEntry 200 = .ok (.invokevirtual 133, 3) := by decide +kernel
