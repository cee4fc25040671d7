theorem zd_Mo_instruction_5 : decode zc_Mo_instruction 5 = .ok (.if_icmp .lt 9, 3) := by decide +kernel
theorem zd_Mo_instruction_8 : decode zc_Mo_instruction 8 = .ok (.aload_n 0, 1) := by decide +kernel
theorem zd_Mo_instruction_9 : decode zc_Mo_instruction 9 = .ok (.iload_n 1, 1) := by decide +kernel
theorem zd_Mo_instruction_10 : decode zc_Mo_instruction 10 = .ok (.invokevirtual 110, 3) := by decide +kernel
theorem zd_Mo_instruction_13 : decode zc_Mo_instruction 13 = .ok (.return_, 1) := by decide +kernel
theorem zd_Mo_instruction_14 : decode zc_Mo_instruction 14 = .ok (.iload_n 1, 1) := by decide +kernel
theorem zd_Mo_instruction_15 : decode zc_Mo_instruction 15 = .ok (.tableswitch 192 0 9 #[53, 60, 68, 85, 102, 114, 126, 139, 147, 164], 53) := by decide +kernel
theorem zd_Mo_instruction_68 : decode zc_Mo_instruction 68 = .ok (.aload_n 0, 1) := by decide +kernel
theorem zd_Mo_instruction_69 : decode zc_Mo_instruction 69 = .ok (.invokevirtual 113, 3) := by decide +kernel
theorem zd_Mo_instruction_72 : decode zc_Mo_instruction 72 = .ok (.goto 141, 3) := by decide +kernel
theorem zd_Mo_instruction_75 : decode zc_Mo_instruction 75 = .ok (.aload_n 0, 1) := by decide +kernel
theorem zd_Mo_instruction_76 : decode zc_Mo_instruction 76 = .ok (.iconst 0, 1) := by decide +kernel
theorem zd_Mo_instruction_77 : decode zc_Mo_instruction 77 = .ok (.invokevirtual 97, 3) := by decide +kernel
theorem zd_Mo_instruction_80 : decode zc_Mo_instruction 80 = .ok (.goto 133, 3) := by decide +kernel
theorem zd_Mo_instruction_83 : decode zc_Mo_instruction 83 = .ok (.aload_n 0, 1) := by decide +kernel
theorem zd_Mo_instruction_84 : decode zc_Mo_instruction 84 = .ok (.dup, 1) := by decide +kernel
theorem zd_Mo_instruction_85 : decode zc_Mo_instruction 85 = .ok (.getfield 62, 3) := by decide +kernel
theorem zd_Mo_instruction_88 : decode zc_Mo_instruction 88 = .ok (.aload_n 0, 1) := by decide +kernel
theorem zd_Mo_instruction_89 : decode zc_Mo_instruction 89 = .ok (.iconst 0, 1) := by decide +kernel
theorem zd_Mo_instruction_90 : decode zc_Mo_instruction 90 = .ok (.invokevirtual 91, 3) := by decide +kernel
theorem zd_Mo_instruction_93 : decode zc_Mo_instruction 93 = .ok (.ladd, 1) := by decide +kernel
theorem zd_Mo_instruction_94 : decode zc_Mo_instruction 94 = .ok (.putfield 62, 3) := by decide +kernel
theorem zd_Mo_instruction_97 : decode zc_Mo_instruction 97 = .ok (.goto 116, 3) := by decide +kernel
theorem zd_Mo_instruction_100 : decode zc_Mo_instruction 100 = .ok (.aload_n 0, 1) := by decide +kernel
theorem zd_Mo_instruction_101 : decode zc_Mo_instruction 101 = .ok (.dup, 1) := by decide +kernel
theorem zd_Mo_instruction_102 : decode zc_Mo_instruction 102 = .ok (.getfield 69, 3) := by decide +kernel
theorem zd_Mo_instruction_105 : decode zc_Mo_instruction 105 = .ok (.aload_n 0, 1) := by decide +kernel
theorem zd_Mo_instruction_106 : decode zc_Mo_instruction 106 = .ok (.iconst 1, 1) := by decide +kernel
theorem zd_Mo_instruction_107 : decode zc_Mo_instruction 107 = .ok (.invokevirtual 91, 3) := by decide +kernel
theorem zd_Mo_instruction_110 : decode zc_Mo_instruction 110 = .ok (.ladd, 1) := by decide +kernel
theorem zd_Mo_instruction_111 : decode zc_Mo_instruction 111 = .ok (.putfield 69, 3) := by decide +kernel
theorem zd_Mo_instruction_114 : decode zc_Mo_instruction 114 = .ok (.goto 99, 3) := by decide +kernel
theorem zd_Mo_instruction_117 : decode zc_Mo_instruction 117 = .ok (.aload_n 0, 1) := by decide +kernel
theorem zd_Mo_instruction_118 : decode zc_Mo_instruction 118 = .ok (.aload_n 0, 1) := by decide +kernel
theorem zd_Mo_instruction_119 : decode zc_Mo_instruction 119 = .ok (.iconst 0, 1) := by decide +kernel
theorem zd_Mo_instruction_120 : decode zc_Mo_instruction 120 = .ok (.invokevirtual 91, 3) := by decide +kernel
theorem zd_Mo_instruction_123 : decode zc_Mo_instruction 123 = .ok (.putfield 66, 3) := by decide +kernel
theorem zd_Mo_instruction_126 : decode zc_Mo_instruction 126 = .ok (.goto 87, 3) := by decide +kernel
theorem zd_Mo_instruction_129 : decode zc_Mo_instruction 129 = .ok (.aload_n 0, 1) := by decide +kernel
theorem zd_Mo_instruction_130 : decode zc_Mo_instruction 130 = .ok (.aload_n 0, 1) := by decide +kernel
theorem zd_Mo_instruction_131 : decode zc_Mo_instruction 131 = .ok (.iconst 0, 1) := by decide +kernel
theorem zd_Mo_instruction_132 : decode zc_Mo_instruction 132 = .ok (.invokevirtual 91, 3) := by decide +kernel
theorem zd_Mo_instruction_135 : decode zc_Mo_instruction 135 = .ok (.putfield 72, 3) := by decide +kernel
theorem zd_Mo_instruction_138 : decode zc_Mo_instruction 138 = .ok (.goto 75, 3) := by decide +kernel
theorem zd_Mo_instruction_141 : decode zc_Mo_instruction 141 = .ok (.aload_n 0, 1) := by decide +kernel
theorem zd_Mo_instruction_142 : decode zc_Mo_instruction 142 = .ok (.iconst 1, 1) := by decide +kernel
theorem zd_Mo_instruction_143 : decode zc_Mo_instruction 143 = .ok (.aload_n 0, 1) := by decide +kernel
theorem zd_Mo_instruction_144 : decode zc_Mo_instruction 144 = .ok (.getfield 75, 3) := by decide +kernel
theorem zd_Mo_instruction_147 : decode zc_Mo_instruction 147 = .ok (.isub, 1) := by decide +kernel
theorem zd_Mo_instruction_148 : decode zc_Mo_instruction 148 = .ok (.putfield 75, 3) := by decide +kernel
theorem zd_Mo_instruction_151 : decode zc_Mo_instruction 151 = .ok (.goto 62, 3) := by decide +kernel
theorem zd_Mo_instruction_154 : decode zc_Mo_instruction 154 = .ok (.aload_n 0, 1) := by decide +kernel
theorem zd_Mo_instruction_155 : decode zc_Mo_instruction 155 = .ok (.iconst 1, 1) := by decide +kernel
theorem zd_Mo_instruction_156 : decode zc_Mo_instruction 156 = .ok (.putfield 78, 3) := by decide +kernel
theorem zd_Mo_instruction_159 : decode zc_Mo_instruction 159 = .ok (.goto 54, 3) := by decide +kernel
theorem zd_Mo_instruction_162 : decode zc_Mo_instruction 162 = .ok (.aload_n 0, 1) := by decide +kernel
theorem zd_Mo_instruction_163 : decode zc_Mo_instruction 163 = .ok (.dup, 1) := by decide +kernel
theorem zd_Mo_instruction_164 : decode zc_Mo_instruction 164 = .ok (.getfield 62, 3) := by decide +kernel
theorem zd_Mo_instruction_167 : decode zc_Mo_instruction 167 = .ok (.aload_n 0, 1) := by decide +kernel
theorem zd_Mo_instruction_168 : decode zc_Mo_instruction 168 = .ok (.invokevirtual 116, 3) := by decide +kernel
theorem zd_Mo_instruction_171 : decode zc_Mo_instruction 171 = .ok (.i2l, 1) := by decide +kernel
theorem zd_Mo_instruction_172 : decode zc_Mo_instruction 172 = .ok (.ladd, 1) := by decide +kernel
theorem zd_Mo_instruction_173 : decode zc_Mo_instruction 173 = .ok (.putfield 62, 3) := by decide +kernel
theorem zd_Mo_instruction_176 : decode zc_Mo_instruction 176 = .ok (.goto 37, 3) := by decide +kernel
theorem zd_Mo_instruction_179 : decode zc_Mo_instruction 179 = .ok (.aload_n 0, 1) := by decide +kernel
theorem zd_Mo_instruction_180 : decode zc_Mo_instruction 180 = .ok (.invokevirtual 54, 3) := by decide +kernel
theorem zd_Mo_instruction_183 : decode zc_Mo_instruction 183 = .ok (.istore_n 2, 1) := by decide +kernel
theorem zd_Mo_instruction_184 : decode zc_Mo_instruction 184 = .ok (.aload_n 0, 1) := by decide +kernel
theorem zd_Mo_instruction_185 : decode zc_Mo_instruction 185 = .ok (.dup, 1) := by decide +kernel
theorem zd_Mo_instruction_186 : decode zc_Mo_instruction 186 = .ok (.getfield 62, 3) := by decide +kernel
theorem zd_Mo_instruction_189 : decode zc_Mo_instruction 189 = .ok (.iload_n 2, 1) := by decide +kernel
theorem zd_Mo_instruction_190 : decode zc_Mo_instruction 190 = .ok (.sipush 256, 3) := by decide +kernel
theorem zd_Mo_instruction_193 : decode zc_Mo_instruction 193 = .ok (.aload_n 0, 1) := by decide +kernel
theorem zd_Mo_instruction_194 : decode zc_Mo_instruction 194 = .ok (.invokevirtual 54, 3) := by decide +kernel
theorem zd_Mo_instruction_197 : decode zc_Mo_instruction 197 = .ok (.imul, 1) := by decide +kernel
theorem zd_Mo_instruction_198 : decode zc_Mo_instruction 198 = .ok (.iadd, 1) := by decide +kernel
theorem zd_Mo_instruction_199 : decode zc_Mo_instruction 199 = .ok (.i2l, 1) := by decide +kernel
theorem zd_Mo_instruction_200 : decode zc_Mo_instruction 200 = .ok (.ladd, 1) := by decide +kernel
theorem zd_Mo_instruction_201 : decode zc_Mo_instruction 201 = .ok (.putfield 62, 3) := by decide +kernel
theorem zd_Mo_instruction_204 : decode zc_Mo_instruction 204 = .ok (.goto 9, 3) := by decide +kernel
theorem zd_Mo_instruction_207 : decode zc_Mo_instruction 207 = .ok (.aload_n 0, 1) := by decide +kernel
theorem zd_Mo_instruction_208 : decode zc_Mo_instruction 208 = .ok (.iconst 0, 1) := by decide +kernel
theorem zd_Mo_instruction_209 : decode zc_Mo_instruction 209 = .ok (.invokevirtual 91, 3) := by decide +kernel
theorem zd_Mo_instruction_212 : decode zc_Mo_instruction 212 = .ok (.lstore_n 3, 1) := by decide +kernel
theorem zd_Mo_instruction_213 : decode zc_Mo_instruction 213 = .ok (.aload_n 0, 1) := by decide +kernel
theorem zd_Mo_instruction_214 : decode zc_Mo_instruction 214 = .ok (.invokevirtual 107, 3) := by decide +kernel
theorem zd_Mo_instruction_217 : decode zc_Mo_instruction 217 = .ok (.return_, 1) := by decide +kernel
theorem zd_Mo_special_0 : decode zc_Mo_special 0 = .ok (.iload_n 1, 1) := by decide +kernel
theorem zd_Mo_special_1 : decode zc_Mo_special 1 = .ok (.aload_n 0, 1) := by decide +kernel
theorem zd_Mo_special_2 : decode zc_Mo_special 2 = .ok (.getfield 7, 3) := by decide +kernel
theorem zd_Mo_special_5 : decode zc_Mo_special 5 = .ok (.isub, 1) := by decide +kernel
theorem zd_Mo_special_6 : decode zc_Mo_special 6 = .ok (.istore_n 2, 1) := by decide +kernel
theorem zd_Mo_special_7 : decode zc_Mo_special 7 = .ok (.aload_n 0, 1) := by decide +kernel
theorem zd_Mo_special_8 : decode zc_Mo_special 8 = .ok (.dup, 1) := by decide +kernel
theorem zd_Mo_special_9 : decode zc_Mo_special 9 = .ok (.getfield 69, 3) := by decide +kernel
theorem zd_Mo_special_12 : decode zc_Mo_special 12 = .ok (.aload_n 0, 1) := by decide +kernel
theorem zd_Mo_special_13 : decode zc_Mo_special 13 = .ok (.getfield 16, 3) := by decide +kernel
theorem zd_Mo_special_16 : decode zc_Mo_special 16 = .ok (.iload_n 2, 1) := by decide +kernel
theorem zd_Mo_special_17 : decode zc_Mo_special 17 = .ok (.aload_n 0, 1) := by decide +kernel
theorem zd_Mo_special_18 : decode zc_Mo_special 18 = .ok (.getfield 13, 3) := by decide +kernel
theorem zd_Mo_special_21 : decode zc_Mo_special 21 = .ok (.irem, 1) := by decide +kernel
theorem zd_Mo_special_22 : decode zc_Mo_special 22 = .ok (.iadd, 1) := by decide +kernel
theorem zd_Mo_special_23 : decode zc_Mo_special 23 = .ok (.i2l, 1) := by decide +kernel
theorem zd_Mo_special_24 : decode zc_Mo_special 24 = .ok (.ladd, 1) := by decide +kernel
theorem zd_Mo_special_25 : decode zc_Mo_special 25 = .ok (.putfield 69, 3) := by decide +kernel
theorem zd_Mo_special_28 : decode zc_Mo_special 28 = .ok (.aload_n 0, 1) := by decide +kernel
theorem zd_Mo_special_29 : decode zc_Mo_special 29 = .ok (.dup, 1) := by decide +kernel
theorem zd_Mo_special_30 : decode zc_Mo_special 30 = .ok (.getfield 62, 3) := by decide +kernel
theorem zd_Mo_special_33 : decode zc_Mo_special 33 = .ok (.iload_n 2, 1) := by decide +kernel
theorem zd_Mo_special_34 : decode zc_Mo_special 34 = .ok (.aload_n 0, 1) := by decide +kernel
theorem zd_Mo_special_35 : decode zc_Mo_special 35 = .ok (.getfield 13, 3) := by decide +kernel
theorem zd_Mo_special_38 : decode zc_Mo_special 38 = .ok (.idiv, 1) := by decide +kernel
theorem zd_Mo_special_39 : decode zc_Mo_special 39 = .ok (.i2l, 1) := by decide +kernel
theorem zd_Mo_special_40 : decode zc_Mo_special 40 = .ok (.ladd, 1) := by decide +kernel
theorem zd_Mo_special_41 : decode zc_Mo_special 41 = .ok (.putfield 62, 3) := by decide +kernel
theorem zd_Mo_special_44 : decode zc_Mo_special 44 = .ok (.aload_n 0, 1) := by decide +kernel
theorem zd_Mo_special_45 : decode zc_Mo_special 45 = .ok (.invokevirtual 107, 3) := by decide +kernel
theorem zd_Mo_special_48 : decode zc_Mo_special 48 = .ok (.aload_n 0, 1) := by decide +kernel
theorem zd_Mo_special_49 : decode zc_Mo_special 49 = .ok (.iconst 0, 1) := by decide +kernel
theorem zd_Mo_special_50 : decode zc_Mo_special 50 = .ok (.invokevirtual 97, 3) := by decide +kernel
theorem zd_Mo_special_53 : decode zc_Mo_special 53 = .ok (.return_, 1) := by decide +kernel
theorem zd_Mo_check_0 : decode zc_Mo_check 0 = .ok (.aload_n 0, 1) := by decide +kernel
theorem zd_Mo_check_1 : decode zc_Mo_check 1 = .ok (.getfield 69, 3) := by decide +kernel
theorem zd_Mo_check_4 : decode zc_Mo_check 4 = .ok (.lconst 0, 1) := by decide +kernel
theorem zd_Mo_check_5 : decode zc_Mo_check 5 = .ok (.lcmp, 1) := by decide +kernel
theorem zd_Mo_check_6 : decode zc_Mo_check 6 = .ok (.ifCond .lt 25, 3) := by decide +kernel
theorem zd_Mo_check_9 : decode zc_Mo_check 9 = .ok (.aload_n 0, 1) := by decide +kernel
theorem zd_Mo_check_10 : decode zc_Mo_check 10 = .ok (.getfield 69, 3) := by decide +kernel
theorem zd_Mo_check_13 : decode zc_Mo_check 13 = .ok (.ldc2_w 60, 3) := by decide +kernel
theorem zd_Mo_check_16 : decode zc_Mo_check 16 = .ok (.lcmp, 1) := by decide +kernel
theorem zd_Mo_check_17 : decode zc_Mo_check 17 = .ok (.ifCond .gt 14, 3) := by decide +kernel
theorem zd_Mo_check_20 : decode zc_Mo_check 20 = .ok (.aload_n 0, 1) := by decide +kernel
theorem zd_Mo_check_21 : decode zc_Mo_check 21 = .ok (.getfield 62, 3) := by decide +kernel
theorem zd_Mo_check_24 : decode zc_Mo_check 24 = .ok (.ldc2_w 60, 3) := by decide +kernel
theorem zd_Mo_check_27 : decode zc_Mo_check 27 = .ok (.lcmp, 1) := by decide +kernel
theorem zd_Mo_check_28 : decode zc_Mo_check 28 = .ok (.ifCond .le 8, 3) := by decide +kernel
theorem zd_Mo_check_31 : decode zc_Mo_check 31 = .ok (.aload_n 0, 1) := by decide +kernel
theorem zd_Mo_check_32 : decode zc_Mo_check 32 = .ok (.iconst 3, 1) := by decide +kernel
theorem zd_Mo_check_33 : decode zc_Mo_check 33 = .ok (.invokevirtual 50, 3) := by decide +kernel
theorem zd_Mo_check_36 : decode zc_Mo_check 36 = .ok (.return_, 1) := by decide +kernel
theorem zd_Mo_come_0 : decode zc_Mo_come 0 = .ok (.aload_n 0, 1) := by decide +kernel
theorem zd_Mo_come_1 : decode zc_Mo_come 1 = .ok (.getfield 44, 3) := by decide +kernel
theorem zd_Mo_come_4 : decode zc_Mo_come 4 = .ok (.ifCond .eq 4, 3) := by decide +kernel
theorem zd_Mo_come_7 : decode zc_Mo_come 7 = .ok (.return_, 1) := by decide +kernel
theorem zd_Mo_come_8 : decode zc_Mo_come 8 = .ok (.aload_n 0, 1) := by decide +kernel
theorem zd_Mo_come_9 : decode zc_Mo_come 9 = .ok (.getfield 81, 3) := by decide +kernel
theorem zd_Mo_come_12 : decode zc_Mo_come 12 = .ok (.ifCond .ne 23, 3) := by decide +kernel
theorem zd_Mo_come_15 : decode zc_Mo_come 15 = .ok (.aload_n 0, 1) := by decide +kernel
theorem zd_Mo_come_16 : decode zc_Mo_come 16 = .ok (.getfield 62, 3) := by decide +kernel
theorem zd_Mo_come_19 : decode zc_Mo_come 19 = .ok (.aload_n 0, 1) := by decide +kernel
