theorem zd_Mo_extended_91 : decode zc_Mo_extended 91 = .ok (.iload 4, 2) := by decide +kernel
theorem zd_Mo_extended_93 : decode zc_Mo_extended 93 = .ok (.ifCond .eq 8, 3) := by decide +kernel
theorem zd_Mo_extended_96 : decode zc_Mo_extended 96 = .ok (.aload_n 0, 1) := by decide +kernel
theorem zd_Mo_extended_97 : decode zc_Mo_extended 97 = .ok (.iconst 2, 1) := by decide +kernel
theorem zd_Mo_extended_98 : decode zc_Mo_extended 98 = .ok (.invokevirtual 50, 3) := by decide +kernel
theorem zd_Mo_extended_101 : decode zc_Mo_extended 101 = .ok (.aload_n 0, 1) := by decide +kernel
theorem zd_Mo_extended_102 : decode zc_Mo_extended 102 = .ok (.getfield 44, 3) := by decide +kernel
theorem zd_Mo_extended_105 : decode zc_Mo_extended 105 = .ok (.ifCond .eq 4, 3) := by decide +kernel
theorem zd_Mo_extended_108 : decode zc_Mo_extended 108 = .ok (.return_, 1) := by decide +kernel
theorem zd_Mo_extended_109 : decode zc_Mo_extended 109 = .ok (.iload_n 3, 1) := by decide +kernel
theorem zd_Mo_extended_110 : decode zc_Mo_extended 110 = .ok (.iconst 1, 1) := by decide +kernel
theorem zd_Mo_extended_111 : decode zc_Mo_extended 111 = .ok (.if_icmp .ne 20, 3) := by decide +kernel
theorem zd_Mo_extended_114 : decode zc_Mo_extended 114 = .ok (.aload_n 0, 1) := by decide +kernel
theorem zd_Mo_extended_115 : decode zc_Mo_extended 115 = .ok (.iconst 1, 1) := by decide +kernel
theorem zd_Mo_extended_116 : decode zc_Mo_extended 116 = .ok (.invokevirtual 97, 3) := by decide +kernel
theorem zd_Mo_extended_119 : decode zc_Mo_extended 119 = .ok (.aload_n 0, 1) := by decide +kernel
theorem zd_Mo_extended_120 : decode zc_Mo_extended 120 = .ok (.invokevirtual 101, 3) := by decide +kernel
theorem zd_Mo_extended_123 : decode zc_Mo_extended 123 = .ok (.aload_n 0, 1) := by decide +kernel
theorem zd_Mo_extended_124 : decode zc_Mo_extended 124 = .ok (.iconst 1, 1) := by decide +kernel
theorem zd_Mo_extended_125 : decode zc_Mo_extended 125 = .ok (.putfield 104, 3) := by decide +kernel
theorem zd_Mo_extended_128 : decode zc_Mo_extended 128 = .ok (.goto 68, 3) := by decide +kernel
theorem zd_Mo_extended_131 : decode zc_Mo_extended 131 = .ok (.iload_n 3, 1) := by decide +kernel
theorem zd_Mo_extended_132 : decode zc_Mo_extended 132 = .ok (.iconst 2, 1) := by decide +kernel
theorem zd_Mo_extended_133 : decode zc_Mo_extended 133 = .ok (.if_icmp .ne 50, 3) := by decide +kernel
theorem zd_Mo_extended_136 : decode zc_Mo_extended 136 = .ok (.lconst 0, 1) := by decide +kernel
theorem zd_Mo_extended_137 : decode zc_Mo_extended 137 = .ok (.lstore 5, 2) := by decide +kernel
theorem zd_Mo_extended_139 : decode zc_Mo_extended 139 = .ok (.iconst 0, 1) := by decide +kernel
theorem zd_Mo_extended_140 : decode zc_Mo_extended 140 = .ok (.istore 7, 2) := by decide +kernel
theorem zd_Mo_extended_142 : decode zc_Mo_extended 142 = .ok (.iload 7, 2) := by decide +kernel
theorem zd_Mo_extended_144 : decode zc_Mo_extended 144 = .ok (.iconst 4, 1) := by decide +kernel
theorem zd_Mo_extended_145 : decode zc_Mo_extended 145 = .ok (.if_icmp .ge 25, 3) := by decide +kernel
theorem zd_Mo_extended_148 : decode zc_Mo_extended 148 = .ok (.lload 5, 2) := by decide +kernel
theorem zd_Mo_extended_150 : decode zc_Mo_extended 150 = .ok (.aload_n 0, 1) := by decide +kernel
theorem zd_Mo_extended_151 : decode zc_Mo_extended 151 = .ok (.invokevirtual 54, 3) := by decide +kernel
theorem zd_Mo_extended_154 : decode zc_Mo_extended 154 = .ok (.i2l, 1) := by decide +kernel
theorem zd_Mo_extended_155 : decode zc_Mo_extended 155 = .ok (.bipush 8, 2) := by decide +kernel
theorem zd_Mo_extended_157 : decode zc_Mo_extended 157 = .ok (.iload 7, 2) := by decide +kernel
theorem zd_Mo_extended_159 : decode zc_Mo_extended 159 = .ok (.imul, 1) := by decide +kernel
theorem zd_Mo_extended_160 : decode zc_Mo_extended 160 = .ok (.lshl, 1) := by decide +kernel
theorem zd_Mo_extended_161 : decode zc_Mo_extended 161 = .ok (.lor, 1) := by decide +kernel
theorem zd_Mo_extended_162 : decode zc_Mo_extended 162 = .ok (.lstore 5, 2) := by decide +kernel
theorem zd_Mo_extended_164 : decode zc_Mo_extended 164 = .ok (.iinc 7 1, 3) := by decide +kernel
theorem zd_Mo_extended_167 : decode zc_Mo_extended 167 = .ok (.goto (-25), 3) := by decide +kernel
theorem zd_Mo_extended_170 : decode zc_Mo_extended 170 = .ok (.aload_n 0, 1) := by decide +kernel
theorem zd_Mo_extended_171 : decode zc_Mo_extended 171 = .ok (.lload 5, 2) := by decide +kernel
theorem zd_Mo_extended_173 : decode zc_Mo_extended 173 = .ok (.putfield 62, 3) := by decide +kernel
theorem zd_Mo_extended_176 : decode zc_Mo_extended 176 = .ok (.aload_n 0, 1) := by decide +kernel
theorem zd_Mo_extended_177 : decode zc_Mo_extended 177 = .ok (.invokevirtual 107, 3) := by decide +kernel
theorem zd_Mo_extended_180 : decode zc_Mo_extended 180 = .ok (.goto 16, 3) := by decide +kernel
theorem zd_Mo_extended_183 : decode zc_Mo_extended 183 = .ok (.aload_n 0, 1) := by decide +kernel
theorem zd_Mo_extended_184 : decode zc_Mo_extended 184 = .ok (.dup, 1) := by decide +kernel
theorem zd_Mo_extended_185 : decode zc_Mo_extended 185 = .ok (.getfield 47, 3) := by decide +kernel
theorem zd_Mo_extended_188 : decode zc_Mo_extended 188 = .ok (.lload_n 1, 1) := by decide +kernel
theorem zd_Mo_extended_189 : decode zc_Mo_extended 189 = .ok (.l2i, 1) := by decide +kernel
theorem zd_Mo_extended_190 : decode zc_Mo_extended 190 = .ok (.iconst 1, 1) := by decide +kernel
theorem zd_Mo_extended_191 : decode zc_Mo_extended 191 = .ok (.isub, 1) := by decide +kernel
theorem zd_Mo_extended_192 : decode zc_Mo_extended 192 = .ok (.iadd, 1) := by decide +kernel
theorem zd_Mo_extended_193 : decode zc_Mo_extended 193 = .ok (.putfield 47, 3) := by decide +kernel
theorem zd_Mo_extended_196 : decode zc_Mo_extended 196 = .ok (.return_, 1) := by decide +kernel
theorem zd_Mo_number_0 : decode zc_Mo_number 0 = .ok (.lconst 0, 1) := by decide +kernel
theorem zd_Mo_number_1 : decode zc_Mo_number 1 = .ok (.lstore_n 2, 1) := by decide +kernel
theorem zd_Mo_number_2 : decode zc_Mo_number 2 = .ok (.iconst 0, 1) := by decide +kernel
theorem zd_Mo_number_3 : decode zc_Mo_number 3 = .ok (.istore 4, 2) := by decide +kernel
theorem zd_Mo_number_5 : decode zc_Mo_number 5 = .ok (.sipush 128, 3) := by decide +kernel
theorem zd_Mo_number_8 : decode zc_Mo_number 8 = .ok (.istore 5, 2) := by decide +kernel
theorem zd_Mo_number_10 : decode zc_Mo_number 10 = .ok (.iload 5, 2) := by decide +kernel
theorem zd_Mo_number_12 : decode zc_Mo_number 12 = .ok (.bipush 127, 2) := by decide +kernel
theorem zd_Mo_number_14 : decode zc_Mo_number 14 = .ok (.if_icmp .le 67, 3) := by decide +kernel
theorem zd_Mo_number_17 : decode zc_Mo_number 17 = .ok (.aload_n 0, 1) := by decide +kernel
theorem zd_Mo_number_18 : decode zc_Mo_number 18 = .ok (.getfield 44, 3) := by decide +kernel
theorem zd_Mo_number_21 : decode zc_Mo_number 21 = .ok (.ifCond .ne 60, 3) := by decide +kernel
theorem zd_Mo_number_24 : decode zc_Mo_number 24 = .ok (.iload 4, 2) := by decide +kernel
theorem zd_Mo_number_26 : decode zc_Mo_number 26 = .ok (.bipush 35, 2) := by decide +kernel
theorem zd_Mo_number_28 : decode zc_Mo_number 28 = .ok (.if_icmp .ne 10, 3) := by decide +kernel
theorem zd_Mo_number_31 : decode zc_Mo_number 31 = .ok (.aload_n 0, 1) := by decide +kernel
theorem zd_Mo_number_32 : decode zc_Mo_number 32 = .ok (.iconst 2, 1) := by decide +kernel
theorem zd_Mo_number_33 : decode zc_Mo_number 33 = .ok (.invokevirtual 50, 3) := by decide +kernel
theorem zd_Mo_number_36 : decode zc_Mo_number 36 = .ok (.lconst 0, 1) := by decide +kernel
theorem zd_Mo_number_37 : decode zc_Mo_number 37 = .ok (.lreturn, 1) := by decide +kernel
theorem zd_Mo_number_38 : decode zc_Mo_number 38 = .ok (.aload_n 0, 1) := by decide +kernel
theorem zd_Mo_number_39 : decode zc_Mo_number 39 = .ok (.invokevirtual 54, 3) := by decide +kernel
theorem zd_Mo_number_42 : decode zc_Mo_number 42 = .ok (.istore 5, 2) := by decide +kernel
theorem zd_Mo_number_44 : decode zc_Mo_number 44 = .ok (.lload_n 2, 1) := by decide +kernel
theorem zd_Mo_number_45 : decode zc_Mo_number 45 = .ok (.iload 5, 2) := by decide +kernel
theorem zd_Mo_number_47 : decode zc_Mo_number 47 = .ok (.bipush 127, 2) := by decide +kernel
theorem zd_Mo_number_49 : decode zc_Mo_number 49 = .ok (.iand, 1) := by decide +kernel
theorem zd_Mo_number_50 : decode zc_Mo_number 50 = .ok (.i2l, 1) := by decide +kernel
theorem zd_Mo_number_51 : decode zc_Mo_number 51 = .ok (.iload 4, 2) := by decide +kernel
theorem zd_Mo_number_53 : decode zc_Mo_number 53 = .ok (.lshl, 1) := by decide +kernel
theorem zd_Mo_number_54 : decode zc_Mo_number 54 = .ok (.lor, 1) := by decide +kernel
theorem zd_Mo_number_55 : decode zc_Mo_number 55 = .ok (.lstore_n 2, 1) := by decide +kernel
theorem zd_Mo_number_56 : decode zc_Mo_number 56 = .ok (.iinc 4 7, 3) := by decide +kernel
theorem zd_Mo_number_59 : decode zc_Mo_number 59 = .ok (.iload 4, 2) := by decide +kernel
theorem zd_Mo_number_61 : decode zc_Mo_number 61 = .ok (.bipush 35, 2) := by decide +kernel
theorem zd_Mo_number_63 : decode zc_Mo_number 63 = .ok (.if_icmp .ne (-53), 3) := by decide +kernel
theorem zd_Mo_number_66 : decode zc_Mo_number 66 = .ok (.iload 5, 2) := by decide +kernel
theorem zd_Mo_number_68 : decode zc_Mo_number 68 = .ok (.bipush 127, 2) := by decide +kernel
theorem zd_Mo_number_70 : decode zc_Mo_number 70 = .ok (.if_icmp .le (-60), 3) := by decide +kernel
theorem zd_Mo_number_73 : decode zc_Mo_number 73 = .ok (.aload_n 0, 1) := by decide +kernel
theorem zd_Mo_number_74 : decode zc_Mo_number 74 = .ok (.iconst 2, 1) := by decide +kernel
theorem zd_Mo_number_75 : decode zc_Mo_number 75 = .ok (.invokevirtual 50, 3) := by decide +kernel
theorem zd_Mo_number_78 : decode zc_Mo_number 78 = .ok (.goto (-68), 3) := by decide +kernel
theorem zd_Mo_number_81 : decode zc_Mo_number 81 = .ok (.iload_n 1, 1) := by decide +kernel
theorem zd_Mo_number_82 : decode zc_Mo_number 82 = .ok (.ifCond .eq 18, 3) := by decide +kernel
theorem zd_Mo_number_85 : decode zc_Mo_number 85 = .ok (.iload 5, 2) := by decide +kernel
theorem zd_Mo_number_87 : decode zc_Mo_number 87 = .ok (.bipush 64, 2) := by decide +kernel
theorem zd_Mo_number_89 : decode zc_Mo_number 89 = .ok (.iand, 1) := by decide +kernel
theorem zd_Mo_number_90 : decode zc_Mo_number 90 = .ok (.ifCond .eq 10, 3) := by decide +kernel
theorem zd_Mo_number_93 : decode zc_Mo_number 93 = .ok (.lload_n 2, 1) := by decide +kernel
theorem zd_Mo_number_94 : decode zc_Mo_number 94 = .ok (.lconst 1, 1) := by decide +kernel
theorem zd_Mo_number_95 : decode zc_Mo_number 95 = .ok (.iload 4, 2) := by decide +kernel
theorem zd_Mo_number_97 : decode zc_Mo_number 97 = .ok (.lshl, 1) := by decide +kernel
theorem zd_Mo_number_98 : decode zc_Mo_number 98 = .ok (.lsub, 1) := by decide +kernel
theorem zd_Mo_number_99 : decode zc_Mo_number 99 = .ok (.lstore_n 2, 1) := by decide +kernel
theorem zd_Mo_number_100 : decode zc_Mo_number 100 = .ok (.iload_n 1, 1) := by decide +kernel
theorem zd_Mo_number_101 : decode zc_Mo_number 101 = .ok (.ifCond .eq 22, 3) := by decide +kernel
theorem zd_Mo_number_104 : decode zc_Mo_number 104 = .ok (.lload_n 2, 1) := by decide +kernel
theorem zd_Mo_number_105 : decode zc_Mo_number 105 = .ok (.ldc2_w 58, 3) := by decide +kernel
theorem zd_Mo_number_108 : decode zc_Mo_number 108 = .ok (.lcmp, 1) := by decide +kernel
theorem zd_Mo_number_109 : decode zc_Mo_number 109 = .ok (.ifCond .lt 22, 3) := by decide +kernel
theorem zd_Mo_number_112 : decode zc_Mo_number 112 = .ok (.lload_n 2, 1) := by decide +kernel
theorem zd_Mo_number_113 : decode zc_Mo_number 113 = .ok (.ldc2_w 60, 3) := by decide +kernel
theorem zd_Mo_number_116 : decode zc_Mo_number 116 = .ok (.lcmp, 1) := by decide +kernel
theorem zd_Mo_number_117 : decode zc_Mo_number 117 = .ok (.ifCond .le 19, 3) := by decide +kernel
theorem zd_Mo_number_120 : decode zc_Mo_number 120 = .ok (.goto 11, 3) := by decide +kernel
theorem zd_Mo_number_123 : decode zc_Mo_number 123 = .ok (.lload_n 2, 1) := by decide +kernel
theorem zd_Mo_number_124 : decode zc_Mo_number 124 = .ok (.ldc2_w 60, 3) := by decide +kernel
theorem zd_Mo_number_127 : decode zc_Mo_number 127 = .ok (.lcmp, 1) := by decide +kernel
theorem zd_Mo_number_128 : decode zc_Mo_number 128 = .ok (.ifCond .le 8, 3) := by decide +kernel
theorem zd_Mo_number_131 : decode zc_Mo_number 131 = .ok (.aload_n 0, 1) := by decide +kernel
theorem zd_Mo_number_132 : decode zc_Mo_number 132 = .ok (.iconst 2, 1) := by decide +kernel
theorem zd_Mo_number_133 : decode zc_Mo_number 133 = .ok (.invokevirtual 50, 3) := by decide +kernel
theorem zd_Mo_number_136 : decode zc_Mo_number 136 = .ok (.aload_n 0, 1) := by decide +kernel
theorem zd_Mo_number_137 : decode zc_Mo_number 137 = .ok (.getfield 44, 3) := by decide +kernel
theorem zd_Mo_number_140 : decode zc_Mo_number 140 = .ok (.ifCond .ne 7, 3) := by decide +kernel
theorem zd_Mo_number_143 : decode zc_Mo_number 143 = .ok (.lload_n 2, 1) := by decide +kernel
theorem zd_Mo_number_144 : decode zc_Mo_number 144 = .ok (.goto 4, 3) := by decide +kernel
theorem zd_Mo_number_147 : decode zc_Mo_number 147 = .ok (.lconst 0, 1) := by decide +kernel
theorem zd_Mo_number_148 : decode zc_Mo_number 148 = .ok (.lreturn, 1) := by decide +kernel
theorem zd_Mo_stepOf_0 : decode zc_Mo_stepOf 0 = .ok (.sipush 255, 3) := by decide +kernel
theorem zd_Mo_stepOf_3 : decode zc_Mo_stepOf 3 = .ok (.aload_n 0, 1) := by decide +kernel
theorem zd_Mo_stepOf_4 : decode zc_Mo_stepOf 4 = .ok (.getfield 7, 3) := by decide +kernel
theorem zd_Mo_stepOf_7 : decode zc_Mo_stepOf 7 = .ok (.isub, 1) := by decide +kernel
theorem zd_Mo_stepOf_8 : decode zc_Mo_stepOf 8 = .ok (.aload_n 0, 1) := by decide +kernel
theorem zd_Mo_stepOf_9 : decode zc_Mo_stepOf 9 = .ok (.getfield 13, 3) := by decide +kernel
theorem zd_Mo_stepOf_12 : decode zc_Mo_stepOf 12 = .ok (.idiv, 1) := by decide +kernel
theorem zd_Mo_stepOf_13 : decode zc_Mo_stepOf 13 = .ok (.ireturn, 1) := by decide +kernel
theorem zd_Mo_row_0 : decode zc_Mo_row 0 = .ok (.aload_n 0, 1) := by decide +kernel
theorem zd_Mo_row_1 : decode zc_Mo_row 1 = .ok (.iload_n 1, 1) := by decide +kernel
theorem zd_Mo_row_2 : decode zc_Mo_row 2 = .ok (.ifCond .lt 21, 3) := by decide +kernel
