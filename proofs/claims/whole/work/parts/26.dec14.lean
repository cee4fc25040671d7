theorem zd_Mo_row_5 : decode zc_Mo_row 5 = .ok (.iload_n 1, 1) := by decide +kernel
theorem zd_Mo_row_6 : decode zc_Mo_row 6 = .ok (.aload_n 0, 1) := by decide +kernel
theorem zd_Mo_row_7 : decode zc_Mo_row 7 = .ok (.getfield 122, 3) := by decide +kernel
theorem zd_Mo_row_10 : decode zc_Mo_row 10 = .ok (.if_icmp .ge 13, 3) := by decide +kernel
theorem zd_Mo_row_13 : decode zc_Mo_row 13 = .ok (.iload_n 2, 1) := by decide +kernel
theorem zd_Mo_row_14 : decode zc_Mo_row 14 = .ok (.ifCond .lt 9, 3) := by decide +kernel
theorem zd_Mo_row_17 : decode zc_Mo_row 17 = .ok (.iload_n 2, 1) := by decide +kernel
theorem zd_Mo_row_18 : decode zc_Mo_row 18 = .ok (.bipush 6, 2) := by decide +kernel
theorem zd_Mo_row_20 : decode zc_Mo_row 20 = .ok (.if_icmp .le 7, 3) := by decide +kernel
theorem zd_Mo_row_23 : decode zc_Mo_row 23 = .ok (.iconst 1, 1) := by decide +kernel
theorem zd_Mo_row_24 : decode zc_Mo_row 24 = .ok (.goto 4, 3) := by decide +kernel
theorem zd_Mo_row_27 : decode zc_Mo_row 27 = .ok (.iconst 0, 1) := by decide +kernel
theorem zd_Mo_row_28 : decode zc_Mo_row 28 = .ok (.putfield 38, 3) := by decide +kernel
theorem zd_Mo_row_31 : decode zc_Mo_row 31 = .ok (.aload_n 0, 1) := by decide +kernel
theorem zd_Mo_row_32 : decode zc_Mo_row 32 = .ok (.getfield 38, 3) := by decide +kernel
theorem zd_Mo_row_35 : decode zc_Mo_row 35 = .ok (.ifCond .ne 17, 3) := by decide +kernel
theorem zd_Mo_row_38 : decode zc_Mo_row 38 = .ok (.aload_n 0, 1) := by decide +kernel
theorem zd_Mo_row_39 : decode zc_Mo_row 39 = .ok (.getfield 26, 3) := by decide +kernel
theorem zd_Mo_row_42 : decode zc_Mo_row 42 = .ok (.bipush 7, 2) := by decide +kernel
theorem zd_Mo_row_44 : decode zc_Mo_row 44 = .ok (.iload_n 1, 1) := by decide +kernel
theorem zd_Mo_row_45 : decode zc_Mo_row 45 = .ok (.imul, 1) := by decide +kernel
theorem zd_Mo_row_46 : decode zc_Mo_row 46 = .ok (.iload_n 2, 1) := by decide +kernel
theorem zd_Mo_row_47 : decode zc_Mo_row 47 = .ok (.iadd, 1) := by decide +kernel
theorem zd_Mo_row_48 : decode zc_Mo_row 48 = .ok (.iaload, 1) := by decide +kernel
theorem zd_Mo_row_49 : decode zc_Mo_row 49 = .ok (.goto 4, 3) := by decide +kernel
theorem zd_Mo_row_52 : decode zc_Mo_row 52 = .ok (.iconst 0, 1) := by decide +kernel
theorem zd_Mo_row_53 : decode zc_Mo_row 53 = .ok (.ireturn, 1) := by decide +kernel
theorem zd_Mo_find_0 : decode zc_Mo_find 0 = .ok (.aload_n 0, 1) := by decide +kernel
theorem zd_Mo_find_1 : decode zc_Mo_find 1 = .ok (.iconst 0, 1) := by decide +kernel
theorem zd_Mo_find_2 : decode zc_Mo_find 2 = .ok (.putfield 38, 3) := by decide +kernel
theorem zd_Mo_find_5 : decode zc_Mo_find 5 = .ok (.iconst 0, 1) := by decide +kernel
theorem zd_Mo_find_6 : decode zc_Mo_find 6 = .ok (.istore_n 2, 1) := by decide +kernel
theorem zd_Mo_find_7 : decode zc_Mo_find 7 = .ok (.iload_n 2, 1) := by decide +kernel
theorem zd_Mo_find_8 : decode zc_Mo_find 8 = .ok (.aload_n 0, 1) := by decide +kernel
theorem zd_Mo_find_9 : decode zc_Mo_find 9 = .ok (.getfield 122, 3) := by decide +kernel
theorem zd_Mo_find_12 : decode zc_Mo_find 12 = .ok (.if_icmp .ge 55, 3) := by decide +kernel
theorem zd_Mo_find_15 : decode zc_Mo_find 15 = .ok (.aload_n 0, 1) := by decide +kernel
theorem zd_Mo_find_16 : decode zc_Mo_find 16 = .ok (.getfield 26, 3) := by decide +kernel
theorem zd_Mo_find_19 : decode zc_Mo_find 19 = .ok (.bipush 7, 2) := by decide +kernel
theorem zd_Mo_find_21 : decode zc_Mo_find 21 = .ok (.iload_n 2, 1) := by decide +kernel
theorem zd_Mo_find_22 : decode zc_Mo_find 22 = .ok (.imul, 1) := by decide +kernel
theorem zd_Mo_find_23 : decode zc_Mo_find 23 = .ok (.bipush 6, 2) := by decide +kernel
theorem zd_Mo_find_25 : decode zc_Mo_find 25 = .ok (.iadd, 1) := by decide +kernel
theorem zd_Mo_find_26 : decode zc_Mo_find 26 = .ok (.iaload, 1) := by decide +kernel
theorem zd_Mo_find_27 : decode zc_Mo_find 27 = .ok (.ifCond .ne 34, 3) := by decide +kernel
theorem zd_Mo_find_30 : decode zc_Mo_find 30 = .ok (.aload_n 0, 1) := by decide +kernel
theorem zd_Mo_find_31 : decode zc_Mo_find 31 = .ok (.getfield 26, 3) := by decide +kernel
theorem zd_Mo_find_34 : decode zc_Mo_find 34 = .ok (.bipush 7, 2) := by decide +kernel
theorem zd_Mo_find_36 : decode zc_Mo_find 36 = .ok (.iload_n 2, 1) := by decide +kernel
theorem zd_Mo_find_37 : decode zc_Mo_find 37 = .ok (.imul, 1) := by decide +kernel
theorem zd_Mo_find_38 : decode zc_Mo_find 38 = .ok (.iaload, 1) := by decide +kernel
theorem zd_Mo_find_39 : decode zc_Mo_find 39 = .ok (.iload_n 1, 1) := by decide +kernel
theorem zd_Mo_find_40 : decode zc_Mo_find 40 = .ok (.if_icmp .gt 21, 3) := by decide +kernel
theorem zd_Mo_find_43 : decode zc_Mo_find 43 = .ok (.aload_n 0, 1) := by decide +kernel
theorem zd_Mo_find_44 : decode zc_Mo_find 44 = .ok (.getfield 26, 3) := by decide +kernel
theorem zd_Mo_find_47 : decode zc_Mo_find 47 = .ok (.bipush 7, 2) := by decide +kernel
theorem zd_Mo_find_49 : decode zc_Mo_find 49 = .ok (.iload_n 2, 1) := by decide +kernel
theorem zd_Mo_find_50 : decode zc_Mo_find 50 = .ok (.imul, 1) := by decide +kernel
theorem zd_Mo_find_51 : decode zc_Mo_find 51 = .ok (.bipush 7, 2) := by decide +kernel
theorem zd_Mo_find_53 : decode zc_Mo_find 53 = .ok (.iadd, 1) := by decide +kernel
theorem zd_Mo_find_54 : decode zc_Mo_find 54 = .ok (.iaload, 1) := by decide +kernel
theorem zd_Mo_find_55 : decode zc_Mo_find 55 = .ok (.iload_n 1, 1) := by decide +kernel
theorem zd_Mo_find_56 : decode zc_Mo_find 56 = .ok (.if_icmp .le 5, 3) := by decide +kernel
theorem zd_Mo_find_59 : decode zc_Mo_find 59 = .ok (.iload_n 2, 1) := by decide +kernel
theorem zd_Mo_find_60 : decode zc_Mo_find 60 = .ok (.ireturn, 1) := by decide +kernel
theorem zd_Mo_find_61 : decode zc_Mo_find 61 = .ok (.iinc 2 1, 3) := by decide +kernel
theorem zd_Mo_find_64 : decode zc_Mo_find 64 = .ok (.goto (-57), 3) := by decide +kernel
theorem zd_Mo_find_67 : decode zc_Mo_find 67 = .ok (.iconst (-1), 1) := by decide +kernel
theorem zd_Mo_find_68 : decode zc_Mo_find 68 = .ok (.ireturn, 1) := by decide +kernel
theorem zd_Mo_entry_0 : decode zc_Mo_entry 0 = .ok (.iload_n 1, 1) := by decide +kernel
theorem zd_Mo_entry_1 : decode zc_Mo_entry 1 = .ok (.ifCond .lt 27, 3) := by decide +kernel
theorem zd_Mo_entry_4 : decode zc_Mo_entry 4 = .ok (.iload_n 2, 1) := by decide +kernel
theorem zd_Mo_entry_5 : decode zc_Mo_entry 5 = .ok (.ifCond .lt 23, 3) := by decide +kernel
theorem zd_Mo_entry_8 : decode zc_Mo_entry 8 = .ok (.iload_n 3, 1) := by decide +kernel
theorem zd_Mo_entry_9 : decode zc_Mo_entry 9 = .ok (.ifCond .lt 19, 3) := by decide +kernel
theorem zd_Mo_entry_12 : decode zc_Mo_entry 12 = .ok (.iload 4, 2) := by decide +kernel
theorem zd_Mo_entry_14 : decode zc_Mo_entry 14 = .ok (.ifCond .lt 14, 3) := by decide +kernel
theorem zd_Mo_entry_17 : decode zc_Mo_entry 17 = .ok (.iload 5, 2) := by decide +kernel
theorem zd_Mo_entry_19 : decode zc_Mo_entry 19 = .ok (.ifCond .lt 9, 3) := by decide +kernel
theorem zd_Mo_entry_22 : decode zc_Mo_entry 22 = .ok (.iload 5, 2) := by decide +kernel
theorem zd_Mo_entry_24 : decode zc_Mo_entry 24 = .ok (.iconst 1, 1) := by decide +kernel
theorem zd_Mo_entry_25 : decode zc_Mo_entry 25 = .ok (.if_icmp .le 7, 3) := by decide +kernel
theorem zd_Mo_entry_28 : decode zc_Mo_entry 28 = .ok (.iconst 1, 1) := by decide +kernel
theorem zd_Mo_entry_29 : decode zc_Mo_entry 29 = .ok (.goto 4, 3) := by decide +kernel
theorem zd_Mo_entry_32 : decode zc_Mo_entry 32 = .ok (.iconst 0, 1) := by decide +kernel
theorem zd_Mo_entry_33 : decode zc_Mo_entry 33 = .ok (.istore 6, 2) := by decide +kernel
theorem zd_Mo_entry_35 : decode zc_Mo_entry 35 = .ok (.aload_n 0, 1) := by decide +kernel
theorem zd_Mo_entry_36 : decode zc_Mo_entry 36 = .ok (.iload 6, 2) := by decide +kernel
theorem zd_Mo_entry_38 : decode zc_Mo_entry 38 = .ok (.ifCond .ne 27, 3) := by decide +kernel
theorem zd_Mo_entry_41 : decode zc_Mo_entry 41 = .ok (.aload_n 0, 1) := by decide +kernel
theorem zd_Mo_entry_42 : decode zc_Mo_entry 42 = .ok (.getfield 125, 3) := by decide +kernel
theorem zd_Mo_entry_45 : decode zc_Mo_entry 45 = .ok (.ifCond .le 24, 3) := by decide +kernel
theorem zd_Mo_entry_48 : decode zc_Mo_entry 48 = .ok (.iload_n 1, 1) := by decide +kernel
theorem zd_Mo_entry_49 : decode zc_Mo_entry 49 = .ok (.aload_n 0, 1) := by decide +kernel
theorem zd_Mo_entry_50 : decode zc_Mo_entry 50 = .ok (.getfield 32, 3) := by decide +kernel
theorem zd_Mo_entry_53 : decode zc_Mo_entry 53 = .ok (.iconst 5, 1) := by decide +kernel
theorem zd_Mo_entry_54 : decode zc_Mo_entry 54 = .ok (.aload_n 0, 1) := by decide +kernel
theorem zd_Mo_entry_55 : decode zc_Mo_entry 55 = .ok (.getfield 125, 3) := by decide +kernel
theorem zd_Mo_entry_58 : decode zc_Mo_entry 58 = .ok (.imul, 1) := by decide +kernel
theorem zd_Mo_entry_59 : decode zc_Mo_entry 59 = .ok (.iconst 5, 1) := by decide +kernel
theorem zd_Mo_entry_60 : decode zc_Mo_entry 60 = .ok (.isub, 1) := by decide +kernel
theorem zd_Mo_entry_61 : decode zc_Mo_entry 61 = .ok (.iaload, 1) := by decide +kernel
theorem zd_Mo_entry_62 : decode zc_Mo_entry 62 = .ok (.if_icmp .gt 7, 3) := by decide +kernel
theorem zd_Mo_entry_65 : decode zc_Mo_entry 65 = .ok (.iconst 1, 1) := by decide +kernel
theorem zd_Mo_entry_66 : decode zc_Mo_entry 66 = .ok (.goto 17, 3) := by decide +kernel
theorem zd_Mo_entry_69 : decode zc_Mo_entry 69 = .ok (.aload_n 0, 1) := by decide +kernel
theorem zd_Mo_entry_70 : decode zc_Mo_entry 70 = .ok (.getfield 125, 3) := by decide +kernel
theorem zd_Mo_entry_73 : decode zc_Mo_entry 73 = .ok (.bipush 60, 2) := by decide +kernel
theorem zd_Mo_entry_75 : decode zc_Mo_entry 75 = .ok (.if_icmp .ne 7, 3) := by decide +kernel
theorem zd_Mo_entry_78 : decode zc_Mo_entry 78 = .ok (.iconst 2, 1) := by decide +kernel
theorem zd_Mo_entry_79 : decode zc_Mo_entry 79 = .ok (.goto 4, 3) := by decide +kernel
theorem zd_Mo_entry_82 : decode zc_Mo_entry 82 = .ok (.iconst 0, 1) := by decide +kernel
theorem zd_Mo_entry_83 : decode zc_Mo_entry 83 = .ok (.putfield 38, 3) := by decide +kernel
theorem zd_Mo_entry_86 : decode zc_Mo_entry 86 = .ok (.aload_n 0, 1) := by decide +kernel
theorem zd_Mo_entry_87 : decode zc_Mo_entry 87 = .ok (.getfield 38, 3) := by decide +kernel
theorem zd_Mo_entry_90 : decode zc_Mo_entry 90 = .ok (.ifCond .eq 5, 3) := by decide +kernel
theorem zd_Mo_entry_93 : decode zc_Mo_entry 93 = .ok (.iconst 0, 1) := by decide +kernel
theorem zd_Mo_entry_94 : decode zc_Mo_entry 94 = .ok (.ireturn, 1) := by decide +kernel
theorem zd_Mo_entry_95 : decode zc_Mo_entry 95 = .ok (.iconst 5, 1) := by decide +kernel
theorem zd_Mo_entry_96 : decode zc_Mo_entry 96 = .ok (.aload_n 0, 1) := by decide +kernel
theorem zd_Mo_entry_97 : decode zc_Mo_entry 97 = .ok (.getfield 125, 3) := by decide +kernel
theorem zd_Mo_entry_100 : decode zc_Mo_entry 100 = .ok (.imul, 1) := by decide +kernel
theorem zd_Mo_entry_101 : decode zc_Mo_entry 101 = .ok (.istore 7, 2) := by decide +kernel
theorem zd_Mo_entry_103 : decode zc_Mo_entry 103 = .ok (.aload_n 0, 1) := by decide +kernel
theorem zd_Mo_entry_104 : decode zc_Mo_entry 104 = .ok (.getfield 32, 3) := by decide +kernel
theorem zd_Mo_entry_107 : decode zc_Mo_entry 107 = .ok (.iload 7, 2) := by decide +kernel
theorem zd_Mo_entry_109 : decode zc_Mo_entry 109 = .ok (.iload_n 1, 1) := by decide +kernel
theorem zd_Mo_entry_110 : decode zc_Mo_entry 110 = .ok (.iastore, 1) := by decide +kernel
theorem zd_Mo_entry_111 : decode zc_Mo_entry 111 = .ok (.aload_n 0, 1) := by decide +kernel
theorem zd_Mo_entry_112 : decode zc_Mo_entry 112 = .ok (.getfield 32, 3) := by decide +kernel
theorem zd_Mo_entry_115 : decode zc_Mo_entry 115 = .ok (.iload 7, 2) := by decide +kernel
theorem zd_Mo_entry_117 : decode zc_Mo_entry 117 = .ok (.iconst 1, 1) := by decide +kernel
theorem zd_Mo_entry_118 : decode zc_Mo_entry 118 = .ok (.iadd, 1) := by decide +kernel
theorem zd_Mo_entry_119 : decode zc_Mo_entry 119 = .ok (.iload_n 2, 1) := by decide +kernel
theorem zd_Mo_entry_120 : decode zc_Mo_entry 120 = .ok (.iastore, 1) := by decide +kernel
theorem zd_Mo_entry_121 : decode zc_Mo_entry 121 = .ok (.aload_n 0, 1) := by decide +kernel
theorem zd_Mo_entry_122 : decode zc_Mo_entry 122 = .ok (.getfield 32, 3) := by decide +kernel
theorem zd_Mo_entry_125 : decode zc_Mo_entry 125 = .ok (.iload 7, 2) := by decide +kernel
theorem zd_Mo_entry_127 : decode zc_Mo_entry 127 = .ok (.iconst 2, 1) := by decide +kernel
theorem zd_Mo_entry_128 : decode zc_Mo_entry 128 = .ok (.iadd, 1) := by decide +kernel
theorem zd_Mo_entry_129 : decode zc_Mo_entry 129 = .ok (.iload_n 3, 1) := by decide +kernel
theorem zd_Mo_entry_130 : decode zc_Mo_entry 130 = .ok (.iastore, 1) := by decide +kernel
theorem zd_Mo_entry_131 : decode zc_Mo_entry 131 = .ok (.aload_n 0, 1) := by decide +kernel
theorem zd_Mo_entry_132 : decode zc_Mo_entry 132 = .ok (.getfield 32, 3) := by decide +kernel
theorem zd_Mo_entry_135 : decode zc_Mo_entry 135 = .ok (.iload 7, 2) := by decide +kernel
theorem zd_Mo_entry_137 : decode zc_Mo_entry 137 = .ok (.iconst 3, 1) := by decide +kernel
theorem zd_Mo_entry_138 : decode zc_Mo_entry 138 = .ok (.iadd, 1) := by decide +kernel
theorem zd_Mo_entry_139 : decode zc_Mo_entry 139 = .ok (.iload 4, 2) := by decide +kernel
theorem zd_Mo_entry_141 : decode zc_Mo_entry 141 = .ok (.iastore, 1) := by decide +kernel
theorem zd_Mo_entry_142 : decode zc_Mo_entry 142 = .ok (.aload_n 0, 1) := by decide +kernel
