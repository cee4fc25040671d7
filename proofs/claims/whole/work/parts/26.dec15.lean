theorem zd_Mo_entry_143 : decode zc_Mo_entry 143 = .ok (.getfield 32, 3) := by decide +kernel
theorem zd_Mo_entry_146 : decode zc_Mo_entry 146 = .ok (.iload 7, 2) := by decide +kernel
theorem zd_Mo_entry_148 : decode zc_Mo_entry 148 = .ok (.iconst 4, 1) := by decide +kernel
theorem zd_Mo_entry_149 : decode zc_Mo_entry 149 = .ok (.iadd, 1) := by decide +kernel
theorem zd_Mo_entry_150 : decode zc_Mo_entry 150 = .ok (.iload 5, 2) := by decide +kernel
theorem zd_Mo_entry_152 : decode zc_Mo_entry 152 = .ok (.iastore, 1) := by decide +kernel
theorem zd_Mo_entry_153 : decode zc_Mo_entry 153 = .ok (.aload_n 0, 1) := by decide +kernel
theorem zd_Mo_entry_154 : decode zc_Mo_entry 154 = .ok (.dup, 1) := by decide +kernel
theorem zd_Mo_entry_155 : decode zc_Mo_entry 155 = .ok (.getfield 125, 3) := by decide +kernel
theorem zd_Mo_entry_158 : decode zc_Mo_entry 158 = .ok (.iconst 1, 1) := by decide +kernel
theorem zd_Mo_entry_159 : decode zc_Mo_entry 159 = .ok (.iadd, 1) := by decide +kernel
theorem zd_Mo_entry_160 : decode zc_Mo_entry 160 = .ok (.putfield 125, 3) := by decide +kernel
theorem zd_Mo_entry_163 : decode zc_Mo_entry 163 = .ok (.aload_n 0, 1) := by decide +kernel
theorem zd_Mo_entry_164 : decode zc_Mo_entry 164 = .ok (.getfield 125, 3) := by decide +kernel
theorem zd_Mo_entry_167 : decode zc_Mo_entry 167 = .ok (.ireturn, 1) := by decide +kernel
theorem zd_Mo_write_0 : decode zc_Mo_write 0 = .ok (.aload_n 0, 1) := by decide +kernel
theorem zd_Mo_write_1 : decode zc_Mo_write 1 = .ok (.aload_n 0, 1) := by decide +kernel
theorem zd_Mo_write_2 : decode zc_Mo_write 2 = .ok (.getfield 125, 3) := by decide +kernel
theorem zd_Mo_write_5 : decode zc_Mo_write 5 = .ok (.ifCond .ne 7, 3) := by decide +kernel
theorem zd_Mo_write_8 : decode zc_Mo_write 8 = .ok (.iconst 1, 1) := by decide +kernel
theorem zd_Mo_write_9 : decode zc_Mo_write 9 = .ok (.goto 25, 3) := by decide +kernel
theorem zd_Mo_write_12 : decode zc_Mo_write 12 = .ok (.iload_n 1, 1) := by decide +kernel
theorem zd_Mo_write_13 : decode zc_Mo_write 13 = .ok (.aload_n 0, 1) := by decide +kernel
theorem zd_Mo_write_14 : decode zc_Mo_write 14 = .ok (.getfield 32, 3) := by decide +kernel
theorem zd_Mo_write_17 : decode zc_Mo_write 17 = .ok (.iconst 5, 1) := by decide +kernel
theorem zd_Mo_write_18 : decode zc_Mo_write 18 = .ok (.aload_n 0, 1) := by decide +kernel
theorem zd_Mo_write_19 : decode zc_Mo_write 19 = .ok (.getfield 125, 3) := by decide +kernel
theorem zd_Mo_write_22 : decode zc_Mo_write 22 = .ok (.imul, 1) := by decide +kernel
theorem zd_Mo_write_23 : decode zc_Mo_write 23 = .ok (.iconst 5, 1) := by decide +kernel
theorem zd_Mo_write_24 : decode zc_Mo_write 24 = .ok (.isub, 1) := by decide +kernel
theorem zd_Mo_write_25 : decode zc_Mo_write 25 = .ok (.iaload, 1) := by decide +kernel
theorem zd_Mo_write_26 : decode zc_Mo_write 26 = .ok (.if_icmp .ge 7, 3) := by decide +kernel
theorem zd_Mo_write_29 : decode zc_Mo_write 29 = .ok (.iconst 2, 1) := by decide +kernel
theorem zd_Mo_write_30 : decode zc_Mo_write 30 = .ok (.goto 4, 3) := by decide +kernel
theorem zd_Mo_write_33 : decode zc_Mo_write 33 = .ok (.iconst 0, 1) := by decide +kernel
theorem zd_Mo_write_34 : decode zc_Mo_write 34 = .ok (.putfield 38, 3) := by decide +kernel
theorem zd_Mo_write_37 : decode zc_Mo_write 37 = .ok (.aload_n 0, 1) := by decide +kernel
theorem zd_Mo_write_38 : decode zc_Mo_write 38 = .ok (.getfield 38, 3) := by decide +kernel
theorem zd_Mo_write_41 : decode zc_Mo_write 41 = .ok (.ifCond .eq 5, 3) := by decide +kernel
theorem zd_Mo_write_44 : decode zc_Mo_write 44 = .ok (.iconst 0, 1) := by decide +kernel
theorem zd_Mo_write_45 : decode zc_Mo_write 45 = .ok (.ireturn, 1) := by decide +kernel
theorem zd_Mo_write_46 : decode zc_Mo_write 46 = .ok (.aload_n 0, 1) := by decide +kernel
theorem zd_Mo_write_47 : decode zc_Mo_write 47 = .ok (.invokevirtual 101, 3) := by decide +kernel
theorem zd_Mo_write_50 : decode zc_Mo_write 50 = .ok (.aload_n 0, 1) := by decide +kernel
theorem zd_Mo_write_51 : decode zc_Mo_write 51 = .ok (.iconst 0, 1) := by decide +kernel
theorem zd_Mo_write_52 : decode zc_Mo_write 52 = .ok (.putfield 128, 3) := by decide +kernel
theorem zd_Mo_write_55 : decode zc_Mo_write 55 = .ok (.aload_n 0, 1) := by decide +kernel
theorem zd_Mo_write_56 : decode zc_Mo_write 56 = .ok (.aload_n 0, 1) := by decide +kernel
theorem zd_Mo_write_57 : decode zc_Mo_write 57 = .ok (.getfield 32, 3) := by decide +kernel
theorem zd_Mo_write_60 : decode zc_Mo_write 60 = .ok (.iconst 0, 1) := by decide +kernel
theorem zd_Mo_write_61 : decode zc_Mo_write 61 = .ok (.iaload, 1) := by decide +kernel
theorem zd_Mo_write_62 : decode zc_Mo_write 62 = .ok (.i2l, 1) := by decide +kernel
theorem zd_Mo_write_63 : decode zc_Mo_write 63 = .ok (.putfield 62, 3) := by decide +kernel
theorem zd_Mo_write_66 : decode zc_Mo_write 66 = .ok (.aload_n 0, 1) := by decide +kernel
theorem zd_Mo_write_67 : decode zc_Mo_write 67 = .ok (.lconst 0, 1) := by decide +kernel
theorem zd_Mo_write_68 : decode zc_Mo_write 68 = .ok (.invokevirtual 133, 3) := by decide +kernel
theorem zd_Mo_write_71 : decode zc_Mo_write 71 = .ok (.aload_n 0, 1) := by decide +kernel
theorem zd_Mo_write_72 : decode zc_Mo_write 72 = .ok (.ldc2_w 95, 3) := by decide +kernel
theorem zd_Mo_write_75 : decode zc_Mo_write 75 = .ok (.invokevirtual 133, 3) := by decide +kernel
theorem zd_Mo_write_78 : decode zc_Mo_write 78 = .ok (.aload_n 0, 1) := by decide +kernel
theorem zd_Mo_write_79 : decode zc_Mo_write 79 = .ok (.ldc2_w 156, 3) := by decide +kernel
theorem zd_Mo_write_82 : decode zc_Mo_write 82 = .ok (.invokevirtual 133, 3) := by decide +kernel
theorem zd_Mo_write_85 : decode zc_Mo_write 85 = .ok (.iconst 0, 1) := by decide +kernel
theorem zd_Mo_write_86 : decode zc_Mo_write 86 = .ok (.istore_n 2, 1) := by decide +kernel
theorem zd_Mo_write_87 : decode zc_Mo_write 87 = .ok (.iload_n 2, 1) := by decide +kernel
theorem zd_Mo_write_88 : decode zc_Mo_write 88 = .ok (.iconst 4, 1) := by decide +kernel
theorem zd_Mo_write_89 : decode zc_Mo_write 89 = .ok (.if_icmp .ge 22, 3) := by decide +kernel
theorem zd_Mo_write_92 : decode zc_Mo_write 92 = .ok (.aload_n 0, 1) := by decide +kernel
theorem zd_Mo_write_93 : decode zc_Mo_write 93 = .ok (.aload_n 0, 1) := by decide +kernel
theorem zd_Mo_write_94 : decode zc_Mo_write 94 = .ok (.getfield 62, 3) := by decide +kernel
theorem zd_Mo_write_97 : decode zc_Mo_write 97 = .ok (.bipush 8, 2) := by decide +kernel
theorem zd_Mo_write_99 : decode zc_Mo_write 99 = .ok (.iload_n 2, 1) := by decide +kernel
theorem zd_Mo_write_100 : decode zc_Mo_write 100 = .ok (.imul, 1) := by decide +kernel
theorem zd_Mo_write_101 : decode zc_Mo_write 101 = .ok (.lshr, 1) := by decide +kernel
theorem zd_Mo_write_102 : decode zc_Mo_write 102 = .ok (.invokevirtual 133, 3) := by decide +kernel
theorem zd_Mo_write_105 : decode zc_Mo_write 105 = .ok (.iinc 2 1, 3) := by decide +kernel
theorem zd_Mo_write_108 : decode zc_Mo_write 108 = .ok (.goto (-21), 3) := by decide +kernel
theorem zd_Mo_write_111 : decode zc_Mo_write 111 = .ok (.iconst 0, 1) := by decide +kernel
theorem zd_Mo_write_112 : decode zc_Mo_write 112 = .ok (.istore_n 2, 1) := by decide +kernel
theorem zd_Mo_write_113 : decode zc_Mo_write 113 = .ok (.iload_n 2, 1) := by decide +kernel
theorem zd_Mo_write_114 : decode zc_Mo_write 114 = .ok (.aload_n 0, 1) := by decide +kernel
theorem zd_Mo_write_115 : decode zc_Mo_write 115 = .ok (.getfield 125, 3) := by decide +kernel
theorem zd_Mo_write_118 : decode zc_Mo_write 118 = .ok (.if_icmp .ge 16, 3) := by decide +kernel
theorem zd_Mo_write_121 : decode zc_Mo_write 121 = .ok (.aload_n 0, 1) := by decide +kernel
theorem zd_Mo_write_122 : decode zc_Mo_write 122 = .ok (.iconst 5, 1) := by decide +kernel
theorem zd_Mo_write_123 : decode zc_Mo_write 123 = .ok (.iload_n 2, 1) := by decide +kernel
theorem zd_Mo_write_124 : decode zc_Mo_write 124 = .ok (.imul, 1) := by decide +kernel
theorem zd_Mo_write_125 : decode zc_Mo_write 125 = .ok (.invokevirtual 158, 3) := by decide +kernel
theorem zd_Mo_write_128 : decode zc_Mo_write 128 = .ok (.iinc 2 1, 3) := by decide +kernel
theorem zd_Mo_write_131 : decode zc_Mo_write 131 = .ok (.goto (-18), 3) := by decide +kernel
theorem zd_Mo_write_134 : decode zc_Mo_write 134 = .ok (.iload_n 1, 1) := by decide +kernel
theorem zd_Mo_write_135 : decode zc_Mo_write 135 = .ok (.i2l, 1) := by decide +kernel
theorem zd_Mo_write_136 : decode zc_Mo_write 136 = .ok (.aload_n 0, 1) := by decide +kernel
theorem zd_Mo_write_137 : decode zc_Mo_write 137 = .ok (.getfield 62, 3) := by decide +kernel
theorem zd_Mo_write_140 : decode zc_Mo_write 140 = .ok (.lcmp, 1) := by decide +kernel
theorem zd_Mo_write_141 : decode zc_Mo_write 141 = .ok (.ifCond .eq 15, 3) := by decide +kernel
theorem zd_Mo_write_144 : decode zc_Mo_write 144 = .ok (.aload_n 0, 1) := by decide +kernel
theorem zd_Mo_write_145 : decode zc_Mo_write 145 = .ok (.iconst 2, 1) := by decide +kernel
theorem zd_Mo_write_146 : decode zc_Mo_write 146 = .ok (.iload_n 1, 1) := by decide +kernel
theorem zd_Mo_write_147 : decode zc_Mo_write 147 = .ok (.i2l, 1) := by decide +kernel
theorem zd_Mo_write_148 : decode zc_Mo_write 148 = .ok (.aload_n 0, 1) := by decide +kernel
theorem zd_Mo_write_149 : decode zc_Mo_write 149 = .ok (.getfield 62, 3) := by decide +kernel
theorem zd_Mo_write_152 : decode zc_Mo_write 152 = .ok (.lsub, 1) := by decide +kernel
theorem zd_Mo_write_153 : decode zc_Mo_write 153 = .ok (.invokevirtual 145, 3) := by decide +kernel
theorem zd_Mo_write_156 : decode zc_Mo_write 156 = .ok (.aload_n 0, 1) := by decide +kernel
theorem zd_Mo_write_157 : decode zc_Mo_write 157 = .ok (.lconst 0, 1) := by decide +kernel
theorem zd_Mo_write_158 : decode zc_Mo_write 158 = .ok (.invokevirtual 133, 3) := by decide +kernel
theorem zd_Mo_write_161 : decode zc_Mo_write 161 = .ok (.aload_n 0, 1) := by decide +kernel
theorem zd_Mo_write_162 : decode zc_Mo_write 162 = .ok (.lconst 1, 1) := by decide +kernel
theorem zd_Mo_write_163 : decode zc_Mo_write 163 = .ok (.invokevirtual 133, 3) := by decide +kernel
theorem zd_Mo_write_166 : decode zc_Mo_write 166 = .ok (.aload_n 0, 1) := by decide +kernel
theorem zd_Mo_write_167 : decode zc_Mo_write 167 = .ok (.lconst 1, 1) := by decide +kernel
theorem zd_Mo_write_168 : decode zc_Mo_write 168 = .ok (.invokevirtual 133, 3) := by decide +kernel
theorem zd_Mo_write_171 : decode zc_Mo_write 171 = .ok (.aload_n 0, 1) := by decide +kernel
theorem zd_Mo_write_172 : decode zc_Mo_write 172 = .ok (.aload_n 0, 1) := by decide +kernel
theorem zd_Mo_write_173 : decode zc_Mo_write 173 = .ok (.getfield 128, 3) := by decide +kernel
theorem zd_Mo_write_176 : decode zc_Mo_write 176 = .ok (.sipush 600, 3) := by decide +kernel
theorem zd_Mo_write_179 : decode zc_Mo_write 179 = .ok (.if_icmp .le 7, 3) := by decide +kernel
theorem zd_Mo_write_182 : decode zc_Mo_write 182 = .ok (.iconst 3, 1) := by decide +kernel
theorem zd_Mo_write_183 : decode zc_Mo_write 183 = .ok (.goto 4, 3) := by decide +kernel
theorem zd_Mo_write_186 : decode zc_Mo_write 186 = .ok (.iconst 0, 1) := by decide +kernel
theorem zd_Mo_write_187 : decode zc_Mo_write 187 = .ok (.putfield 38, 3) := by decide +kernel
theorem zd_Mo_write_190 : decode zc_Mo_write 190 = .ok (.aload_n 0, 1) := by decide +kernel
theorem zd_Mo_write_191 : decode zc_Mo_write 191 = .ok (.getfield 38, 3) := by decide +kernel
theorem zd_Mo_write_194 : decode zc_Mo_write 194 = .ok (.ifCond .eq 5, 3) := by decide +kernel
theorem zd_Mo_write_197 : decode zc_Mo_write 197 = .ok (.iconst 0, 1) := by decide +kernel
theorem zd_Mo_write_198 : decode zc_Mo_write 198 = .ok (.ireturn, 1) := by decide +kernel
theorem zd_Mo_write_199 : decode zc_Mo_write 199 = .ok (.aload_n 0, 1) := by decide +kernel
theorem zd_Mo_write_200 : decode zc_Mo_write 200 = .ok (.aload_n 0, 1) := by decide +kernel
theorem zd_Mo_write_201 : decode zc_Mo_write 201 = .ok (.getfield 128, 3) := by decide +kernel
theorem zd_Mo_write_204 : decode zc_Mo_write 204 = .ok (.putfield 41, 3) := by decide +kernel
theorem zd_Mo_write_207 : decode zc_Mo_write 207 = .ok (.iconst 0, 1) := by decide +kernel
theorem zd_Mo_write_208 : decode zc_Mo_write 208 = .ok (.istore_n 2, 1) := by decide +kernel
theorem zd_Mo_write_209 : decode zc_Mo_write 209 = .ok (.iload_n 2, 1) := by decide +kernel
theorem zd_Mo_write_210 : decode zc_Mo_write 210 = .ok (.aload_n 0, 1) := by decide +kernel
theorem zd_Mo_write_211 : decode zc_Mo_write 211 = .ok (.getfield 41, 3) := by decide +kernel
theorem zd_Mo_write_214 : decode zc_Mo_write 214 = .ok (.if_icmp .ge 21, 3) := by decide +kernel
theorem zd_Mo_write_217 : decode zc_Mo_write 217 = .ok (.aload_n 0, 1) := by decide +kernel
theorem zd_Mo_write_218 : decode zc_Mo_write 218 = .ok (.getfield 22, 3) := by decide +kernel
theorem zd_Mo_write_221 : decode zc_Mo_write 221 = .ok (.iload_n 2, 1) := by decide +kernel
theorem zd_Mo_write_222 : decode zc_Mo_write 222 = .ok (.aload_n 0, 1) := by decide +kernel
theorem zd_Mo_write_223 : decode zc_Mo_write 223 = .ok (.getfield 35, 3) := by decide +kernel
theorem zd_Mo_write_226 : decode zc_Mo_write 226 = .ok (.iload_n 2, 1) := by decide +kernel
theorem zd_Mo_write_227 : decode zc_Mo_write 227 = .ok (.iaload, 1) := by decide +kernel
theorem zd_Mo_write_228 : decode zc_Mo_write 228 = .ok (.iastore, 1) := by decide +kernel
theorem zd_Mo_write_229 : decode zc_Mo_write 229 = .ok (.iinc 2 1, 3) := by decide +kernel
theorem zd_Mo_write_232 : decode zc_Mo_write 232 = .ok (.goto (-23), 3) := by decide +kernel
theorem zd_Mo_write_235 : decode zc_Mo_write 235 = .ok (.aload_n 0, 1) := by decide +kernel
theorem zd_Mo_write_236 : decode zc_Mo_write 236 = .ok (.iconst 0, 1) := by decide +kernel
theorem zd_Mo_write_237 : decode zc_Mo_write 237 = .ok (.putfield 125, 3) := by decide +kernel
