theorem zd_Mo_come_20 : decode zc_Mo_come 20 = .ok (.getfield 85, 3) := by decide +kernel
theorem zd_Mo_come_23 : decode zc_Mo_come 23 = .ok (.lcmp, 1) := by decide +kernel
theorem zd_Mo_come_24 : decode zc_Mo_come 24 = .ok (.ifCond .ge 11, 3) := by decide +kernel
theorem zd_Mo_come_27 : decode zc_Mo_come 27 = .ok (.aload_n 0, 1) := by decide +kernel
theorem zd_Mo_come_28 : decode zc_Mo_come 28 = .ok (.iconst 4, 1) := by decide +kernel
theorem zd_Mo_come_29 : decode zc_Mo_come 29 = .ok (.invokevirtual 50, 3) := by decide +kernel
theorem zd_Mo_come_32 : decode zc_Mo_come 32 = .ok (.goto 148, 3) := by decide +kernel
theorem zd_Mo_come_35 : decode zc_Mo_come 35 = .ok (.aload_n 0, 1) := by decide +kernel
theorem zd_Mo_come_36 : decode zc_Mo_come 36 = .ok (.getfield 88, 3) := by decide +kernel
theorem zd_Mo_come_39 : decode zc_Mo_come 39 = .ok (.bipush 90, 2) := by decide +kernel
theorem zd_Mo_come_41 : decode zc_Mo_come 41 = .ok (.if_icmp .ne 11, 3) := by decide +kernel
theorem zd_Mo_come_44 : decode zc_Mo_come 44 = .ok (.aload_n 0, 1) := by decide +kernel
theorem zd_Mo_come_45 : decode zc_Mo_come 45 = .ok (.iconst 5, 1) := by decide +kernel
theorem zd_Mo_come_46 : decode zc_Mo_come 46 = .ok (.invokevirtual 50, 3) := by decide +kernel
theorem zd_Mo_come_49 : decode zc_Mo_come 49 = .ok (.goto 131, 3) := by decide +kernel
theorem zd_Mo_come_52 : decode zc_Mo_come 52 = .ok (.bipush 7, 2) := by decide +kernel
theorem zd_Mo_come_54 : decode zc_Mo_come 54 = .ok (.aload_n 0, 1) := by decide +kernel
theorem zd_Mo_come_55 : decode zc_Mo_come 55 = .ok (.getfield 88, 3) := by decide +kernel
theorem zd_Mo_come_58 : decode zc_Mo_come 58 = .ok (.imul, 1) := by decide +kernel
theorem zd_Mo_come_59 : decode zc_Mo_come 59 = .ok (.istore_n 2, 1) := by decide +kernel
theorem zd_Mo_come_60 : decode zc_Mo_come 60 = .ok (.aload_n 0, 1) := by decide +kernel
theorem zd_Mo_come_61 : decode zc_Mo_come 61 = .ok (.getfield 29, 3) := by decide +kernel
theorem zd_Mo_come_64 : decode zc_Mo_come 64 = .ok (.iload_n 2, 1) := by decide +kernel
theorem zd_Mo_come_65 : decode zc_Mo_come 65 = .ok (.aload_n 0, 1) := by decide +kernel
theorem zd_Mo_come_66 : decode zc_Mo_come 66 = .ok (.getfield 62, 3) := by decide +kernel
theorem zd_Mo_come_69 : decode zc_Mo_come 69 = .ok (.l2i, 1) := by decide +kernel
theorem zd_Mo_come_70 : decode zc_Mo_come 70 = .ok (.iastore, 1) := by decide +kernel
theorem zd_Mo_come_71 : decode zc_Mo_come 71 = .ok (.aload_n 0, 1) := by decide +kernel
theorem zd_Mo_come_72 : decode zc_Mo_come 72 = .ok (.getfield 29, 3) := by decide +kernel
theorem zd_Mo_come_75 : decode zc_Mo_come 75 = .ok (.iload_n 2, 1) := by decide +kernel
theorem zd_Mo_come_76 : decode zc_Mo_come 76 = .ok (.iconst 1, 1) := by decide +kernel
theorem zd_Mo_come_77 : decode zc_Mo_come 77 = .ok (.iadd, 1) := by decide +kernel
theorem zd_Mo_come_78 : decode zc_Mo_come 78 = .ok (.aload_n 0, 1) := by decide +kernel
theorem zd_Mo_come_79 : decode zc_Mo_come 79 = .ok (.getfield 66, 3) := by decide +kernel
theorem zd_Mo_come_82 : decode zc_Mo_come 82 = .ok (.l2i, 1) := by decide +kernel
theorem zd_Mo_come_83 : decode zc_Mo_come 83 = .ok (.iastore, 1) := by decide +kernel
theorem zd_Mo_come_84 : decode zc_Mo_come 84 = .ok (.aload_n 0, 1) := by decide +kernel
theorem zd_Mo_come_85 : decode zc_Mo_come 85 = .ok (.getfield 29, 3) := by decide +kernel
theorem zd_Mo_come_88 : decode zc_Mo_come 88 = .ok (.iload_n 2, 1) := by decide +kernel
theorem zd_Mo_come_89 : decode zc_Mo_come 89 = .ok (.iconst 2, 1) := by decide +kernel
theorem zd_Mo_come_90 : decode zc_Mo_come 90 = .ok (.iadd, 1) := by decide +kernel
theorem zd_Mo_come_91 : decode zc_Mo_come 91 = .ok (.aload_n 0, 1) := by decide +kernel
theorem zd_Mo_come_92 : decode zc_Mo_come 92 = .ok (.getfield 69, 3) := by decide +kernel
theorem zd_Mo_come_95 : decode zc_Mo_come 95 = .ok (.l2i, 1) := by decide +kernel
theorem zd_Mo_come_96 : decode zc_Mo_come 96 = .ok (.iastore, 1) := by decide +kernel
theorem zd_Mo_come_97 : decode zc_Mo_come 97 = .ok (.aload_n 0, 1) := by decide +kernel
theorem zd_Mo_come_98 : decode zc_Mo_come 98 = .ok (.getfield 29, 3) := by decide +kernel
theorem zd_Mo_come_101 : decode zc_Mo_come 101 = .ok (.iload_n 2, 1) := by decide +kernel
theorem zd_Mo_come_102 : decode zc_Mo_come 102 = .ok (.iconst 3, 1) := by decide +kernel
theorem zd_Mo_come_103 : decode zc_Mo_come 103 = .ok (.iadd, 1) := by decide +kernel
theorem zd_Mo_come_104 : decode zc_Mo_come 104 = .ok (.aload_n 0, 1) := by decide +kernel
theorem zd_Mo_come_105 : decode zc_Mo_come 105 = .ok (.getfield 72, 3) := by decide +kernel
theorem zd_Mo_come_108 : decode zc_Mo_come 108 = .ok (.l2i, 1) := by decide +kernel
theorem zd_Mo_come_109 : decode zc_Mo_come 109 = .ok (.iastore, 1) := by decide +kernel
theorem zd_Mo_come_110 : decode zc_Mo_come 110 = .ok (.aload_n 0, 1) := by decide +kernel
theorem zd_Mo_come_111 : decode zc_Mo_come 111 = .ok (.getfield 29, 3) := by decide +kernel
theorem zd_Mo_come_114 : decode zc_Mo_come 114 = .ok (.iload_n 2, 1) := by decide +kernel
theorem zd_Mo_come_115 : decode zc_Mo_come 115 = .ok (.iconst 4, 1) := by decide +kernel
theorem zd_Mo_come_116 : decode zc_Mo_come 116 = .ok (.iadd, 1) := by decide +kernel
theorem zd_Mo_come_117 : decode zc_Mo_come 117 = .ok (.aload_n 0, 1) := by decide +kernel
theorem zd_Mo_come_118 : decode zc_Mo_come 118 = .ok (.getfield 75, 3) := by decide +kernel
theorem zd_Mo_come_121 : decode zc_Mo_come 121 = .ok (.iastore, 1) := by decide +kernel
theorem zd_Mo_come_122 : decode zc_Mo_come 122 = .ok (.aload_n 0, 1) := by decide +kernel
theorem zd_Mo_come_123 : decode zc_Mo_come 123 = .ok (.getfield 29, 3) := by decide +kernel
theorem zd_Mo_come_126 : decode zc_Mo_come 126 = .ok (.iload_n 2, 1) := by decide +kernel
theorem zd_Mo_come_127 : decode zc_Mo_come 127 = .ok (.iconst 5, 1) := by decide +kernel
theorem zd_Mo_come_128 : decode zc_Mo_come 128 = .ok (.iadd, 1) := by decide +kernel
theorem zd_Mo_come_129 : decode zc_Mo_come 129 = .ok (.aload_n 0, 1) := by decide +kernel
theorem zd_Mo_come_130 : decode zc_Mo_come 130 = .ok (.getfield 78, 3) := by decide +kernel
theorem zd_Mo_come_133 : decode zc_Mo_come 133 = .ok (.iastore, 1) := by decide +kernel
theorem zd_Mo_come_134 : decode zc_Mo_come 134 = .ok (.aload_n 0, 1) := by decide +kernel
theorem zd_Mo_come_135 : decode zc_Mo_come 135 = .ok (.getfield 29, 3) := by decide +kernel
theorem zd_Mo_come_138 : decode zc_Mo_come 138 = .ok (.iload_n 2, 1) := by decide +kernel
theorem zd_Mo_come_139 : decode zc_Mo_come 139 = .ok (.bipush 6, 2) := by decide +kernel
theorem zd_Mo_come_141 : decode zc_Mo_come 141 = .ok (.iadd, 1) := by decide +kernel
theorem zd_Mo_come_142 : decode zc_Mo_come 142 = .ok (.iload_n 1, 1) := by decide +kernel
theorem zd_Mo_come_143 : decode zc_Mo_come 143 = .ok (.ifCond .eq 7, 3) := by decide +kernel
theorem zd_Mo_come_146 : decode zc_Mo_come 146 = .ok (.iconst 1, 1) := by decide +kernel
theorem zd_Mo_come_147 : decode zc_Mo_come 147 = .ok (.goto 4, 3) := by decide +kernel
theorem zd_Mo_come_150 : decode zc_Mo_come 150 = .ok (.iconst 0, 1) := by decide +kernel
theorem zd_Mo_come_151 : decode zc_Mo_come 151 = .ok (.iastore, 1) := by decide +kernel
theorem zd_Mo_come_152 : decode zc_Mo_come 152 = .ok (.aload_n 0, 1) := by decide +kernel
theorem zd_Mo_come_153 : decode zc_Mo_come 153 = .ok (.dup, 1) := by decide +kernel
theorem zd_Mo_come_154 : decode zc_Mo_come 154 = .ok (.getfield 88, 3) := by decide +kernel
theorem zd_Mo_come_157 : decode zc_Mo_come 157 = .ok (.iconst 1, 1) := by decide +kernel
theorem zd_Mo_come_158 : decode zc_Mo_come 158 = .ok (.iadd, 1) := by decide +kernel
theorem zd_Mo_come_159 : decode zc_Mo_come 159 = .ok (.putfield 88, 3) := by decide +kernel
theorem zd_Mo_come_162 : decode zc_Mo_come 162 = .ok (.aload_n 0, 1) := by decide +kernel
theorem zd_Mo_come_163 : decode zc_Mo_come 163 = .ok (.aload_n 0, 1) := by decide +kernel
theorem zd_Mo_come_164 : decode zc_Mo_come 164 = .ok (.getfield 62, 3) := by decide +kernel
theorem zd_Mo_come_167 : decode zc_Mo_come 167 = .ok (.putfield 85, 3) := by decide +kernel
theorem zd_Mo_come_170 : decode zc_Mo_come 170 = .ok (.aload_n 0, 1) := by decide +kernel
theorem zd_Mo_come_171 : decode zc_Mo_come 171 = .ok (.iconst 0, 1) := by decide +kernel
theorem zd_Mo_come_172 : decode zc_Mo_come 172 = .ok (.putfield 81, 3) := by decide +kernel
theorem zd_Mo_come_175 : decode zc_Mo_come 175 = .ok (.aload_n 0, 1) := by decide +kernel
theorem zd_Mo_come_176 : decode zc_Mo_come 176 = .ok (.iconst 0, 1) := by decide +kernel
theorem zd_Mo_come_177 : decode zc_Mo_come 177 = .ok (.putfield 78, 3) := by decide +kernel
theorem zd_Mo_come_180 : decode zc_Mo_come 180 = .ok (.return_, 1) := by decide +kernel
theorem zd_Mo_extended_0 : decode zc_Mo_extended 0 = .ok (.aload_n 0, 1) := by decide +kernel
theorem zd_Mo_extended_1 : decode zc_Mo_extended 1 = .ok (.iconst 0, 1) := by decide +kernel
theorem zd_Mo_extended_2 : decode zc_Mo_extended 2 = .ok (.invokevirtual 91, 3) := by decide +kernel
theorem zd_Mo_extended_5 : decode zc_Mo_extended 5 = .ok (.lstore_n 1, 1) := by decide +kernel
theorem zd_Mo_extended_6 : decode zc_Mo_extended 6 = .ok (.aload_n 0, 1) := by decide +kernel
theorem zd_Mo_extended_7 : decode zc_Mo_extended 7 = .ok (.getfield 44, 3) := by decide +kernel
theorem zd_Mo_extended_10 : decode zc_Mo_extended 10 = .ok (.ifCond .ne 23, 3) := by decide +kernel
theorem zd_Mo_extended_13 : decode zc_Mo_extended 13 = .ok (.lload_n 1, 1) := by decide +kernel
theorem zd_Mo_extended_14 : decode zc_Mo_extended 14 = .ok (.aload_n 0, 1) := by decide +kernel
theorem zd_Mo_extended_15 : decode zc_Mo_extended 15 = .ok (.getfield 41, 3) := by decide +kernel
theorem zd_Mo_extended_18 : decode zc_Mo_extended 18 = .ok (.aload_n 0, 1) := by decide +kernel
theorem zd_Mo_extended_19 : decode zc_Mo_extended 19 = .ok (.getfield 47, 3) := by decide +kernel
theorem zd_Mo_extended_22 : decode zc_Mo_extended 22 = .ok (.isub, 1) := by decide +kernel
theorem zd_Mo_extended_23 : decode zc_Mo_extended 23 = .ok (.i2l, 1) := by decide +kernel
theorem zd_Mo_extended_24 : decode zc_Mo_extended 24 = .ok (.lcmp, 1) := by decide +kernel
theorem zd_Mo_extended_25 : decode zc_Mo_extended 25 = .ok (.ifCond .le 8, 3) := by decide +kernel
theorem zd_Mo_extended_28 : decode zc_Mo_extended 28 = .ok (.aload_n 0, 1) := by decide +kernel
theorem zd_Mo_extended_29 : decode zc_Mo_extended 29 = .ok (.iconst 1, 1) := by decide +kernel
theorem zd_Mo_extended_30 : decode zc_Mo_extended 30 = .ok (.invokevirtual 50, 3) := by decide +kernel
theorem zd_Mo_extended_33 : decode zc_Mo_extended 33 = .ok (.aload_n 0, 1) := by decide +kernel
theorem zd_Mo_extended_34 : decode zc_Mo_extended 34 = .ok (.getfield 44, 3) := by decide +kernel
theorem zd_Mo_extended_37 : decode zc_Mo_extended 37 = .ok (.ifCond .ne 14, 3) := by decide +kernel
theorem zd_Mo_extended_40 : decode zc_Mo_extended 40 = .ok (.lload_n 1, 1) := by decide +kernel
theorem zd_Mo_extended_41 : decode zc_Mo_extended 41 = .ok (.lconst 0, 1) := by decide +kernel
theorem zd_Mo_extended_42 : decode zc_Mo_extended 42 = .ok (.lcmp, 1) := by decide +kernel
theorem zd_Mo_extended_43 : decode zc_Mo_extended 43 = .ok (.ifCond .ne 8, 3) := by decide +kernel
theorem zd_Mo_extended_46 : decode zc_Mo_extended 46 = .ok (.aload_n 0, 1) := by decide +kernel
theorem zd_Mo_extended_47 : decode zc_Mo_extended 47 = .ok (.iconst 2, 1) := by decide +kernel
theorem zd_Mo_extended_48 : decode zc_Mo_extended 48 = .ok (.invokevirtual 50, 3) := by decide +kernel
theorem zd_Mo_extended_51 : decode zc_Mo_extended 51 = .ok (.aload_n 0, 1) := by decide +kernel
theorem zd_Mo_extended_52 : decode zc_Mo_extended 52 = .ok (.invokevirtual 54, 3) := by decide +kernel
theorem zd_Mo_extended_55 : decode zc_Mo_extended 55 = .ok (.istore_n 3, 1) := by decide +kernel
theorem zd_Mo_extended_56 : decode zc_Mo_extended 56 = .ok (.iload_n 3, 1) := by decide +kernel
theorem zd_Mo_extended_57 : decode zc_Mo_extended 57 = .ok (.ifCond .eq 27, 3) := by decide +kernel
theorem zd_Mo_extended_60 : decode zc_Mo_extended 60 = .ok (.iload_n 3, 1) := by decide +kernel
theorem zd_Mo_extended_61 : decode zc_Mo_extended 61 = .ok (.iconst 1, 1) := by decide +kernel
theorem zd_Mo_extended_62 : decode zc_Mo_extended 62 = .ok (.if_icmp .ne 9, 3) := by decide +kernel
theorem zd_Mo_extended_65 : decode zc_Mo_extended 65 = .ok (.lload_n 1, 1) := by decide +kernel
theorem zd_Mo_extended_66 : decode zc_Mo_extended 66 = .ok (.lconst 1, 1) := by decide +kernel
theorem zd_Mo_extended_67 : decode zc_Mo_extended 67 = .ok (.lcmp, 1) := by decide +kernel
theorem zd_Mo_extended_68 : decode zc_Mo_extended 68 = .ok (.ifCond .ne 16, 3) := by decide +kernel
theorem zd_Mo_extended_71 : decode zc_Mo_extended 71 = .ok (.iload_n 3, 1) := by decide +kernel
theorem zd_Mo_extended_72 : decode zc_Mo_extended 72 = .ok (.iconst 2, 1) := by decide +kernel
theorem zd_Mo_extended_73 : decode zc_Mo_extended 73 = .ok (.if_icmp .ne 15, 3) := by decide +kernel
theorem zd_Mo_extended_76 : decode zc_Mo_extended 76 = .ok (.lload_n 1, 1) := by decide +kernel
theorem zd_Mo_extended_77 : decode zc_Mo_extended 77 = .ok (.ldc2_w 95, 3) := by decide +kernel
theorem zd_Mo_extended_80 : decode zc_Mo_extended 80 = .ok (.lcmp, 1) := by decide +kernel
theorem zd_Mo_extended_81 : decode zc_Mo_extended 81 = .ok (.ifCond .eq 7, 3) := by decide +kernel
theorem zd_Mo_extended_84 : decode zc_Mo_extended 84 = .ok (.iconst 1, 1) := by decide +kernel
theorem zd_Mo_extended_85 : decode zc_Mo_extended 85 = .ok (.goto 4, 3) := by decide +kernel
theorem zd_Mo_extended_88 : decode zc_Mo_extended 88 = .ok (.iconst 0, 1) := by decide +kernel
theorem zd_Mo_extended_89 : decode zc_Mo_extended 89 = .ok (.istore 4, 2) := by decide +kernel
