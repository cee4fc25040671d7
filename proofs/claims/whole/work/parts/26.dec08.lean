theorem zd_Wr_writeMove_12 : decode zc_Wr_writeMove 12 = .ok (.getfield 77, 3) := by decide +kernel
theorem zd_Wr_writeMove_15 : decode zc_Wr_writeMove 15 = .ok (.if_icmp .lt 22, 3) := by decide +kernel
theorem zd_Wr_writeMove_18 : decode zc_Wr_writeMove 18 = .ok (.iload_n 3, 1) := by decide +kernel
theorem zd_Wr_writeMove_19 : decode zc_Wr_writeMove 19 = .ok (.aload_n 0, 1) := by decide +kernel
theorem zd_Wr_writeMove_20 : decode zc_Wr_writeMove 20 = .ok (.getfield 24, 3) := by decide +kernel
theorem zd_Wr_writeMove_23 : decode zc_Wr_writeMove 23 = .ok (.getfield 77, 3) := by decide +kernel
theorem zd_Wr_writeMove_26 : decode zc_Wr_writeMove 26 = .ok (.aload_n 0, 1) := by decide +kernel
theorem zd_Wr_writeMove_27 : decode zc_Wr_writeMove 27 = .ok (.getfield 24, 3) := by decide +kernel
theorem zd_Wr_writeMove_30 : decode zc_Wr_writeMove 30 = .ok (.getfield 80, 3) := by decide +kernel
theorem zd_Wr_writeMove_33 : decode zc_Wr_writeMove 33 = .ok (.iadd, 1) := by decide +kernel
theorem zd_Wr_writeMove_34 : decode zc_Wr_writeMove 34 = .ok (.if_icmp .lt 18, 3) := by decide +kernel
theorem zd_Wr_writeMove_37 : decode zc_Wr_writeMove 37 = .ok (.aload_n 0, 1) := by decide +kernel
theorem zd_Wr_writeMove_38 : decode zc_Wr_writeMove 38 = .ok (.getfield 28, 3) := by decide +kernel
theorem zd_Wr_writeMove_41 : decode zc_Wr_writeMove 41 = .ok (.iconst 3, 1) := by decide +kernel
theorem zd_Wr_writeMove_42 : decode zc_Wr_writeMove 42 = .ok (.invokevirtual 69, 3) := by decide +kernel
theorem zd_Wr_writeMove_45 : decode zc_Wr_writeMove 45 = .ok (.aload_n 0, 1) := by decide +kernel
theorem zd_Wr_writeMove_46 : decode zc_Wr_writeMove 46 = .ok (.iload_n 3, 1) := by decide +kernel
theorem zd_Wr_writeMove_47 : decode zc_Wr_writeMove 47 = .ok (.invokevirtual 83, 3) := by decide +kernel
theorem zd_Wr_writeMove_50 : decode zc_Wr_writeMove 50 = .ok (.iconst 0, 1) := by decide +kernel
theorem zd_Wr_writeMove_51 : decode zc_Wr_writeMove 51 = .ok (.istore_n 3, 1) := by decide +kernel
theorem zd_Wr_writeMove_52 : decode zc_Wr_writeMove 52 = .ok (.aload_n 0, 1) := by decide +kernel
theorem zd_Wr_writeMove_53 : decode zc_Wr_writeMove 53 = .ok (.iload_n 1, 1) := by decide +kernel
theorem zd_Wr_writeMove_54 : decode zc_Wr_writeMove 54 = .ok (.aload_n 0, 1) := by decide +kernel
theorem zd_Wr_writeMove_55 : decode zc_Wr_writeMove 55 = .ok (.getfield 9, 3) := by decide +kernel
theorem zd_Wr_writeMove_58 : decode zc_Wr_writeMove 58 = .ok (.isub, 1) := by decide +kernel
theorem zd_Wr_writeMove_59 : decode zc_Wr_writeMove 59 = .ok (.iload_n 3, 1) := by decide +kernel
theorem zd_Wr_writeMove_60 : decode zc_Wr_writeMove 60 = .ok (.invokevirtual 86, 3) := by decide +kernel
theorem zd_Wr_writeMove_63 : decode zc_Wr_writeMove 63 = .ok (.aload_n 0, 1) := by decide +kernel
theorem zd_Wr_writeMove_64 : decode zc_Wr_writeMove 64 = .ok (.iload_n 1, 1) := by decide +kernel
theorem zd_Wr_writeMove_65 : decode zc_Wr_writeMove 65 = .ok (.putfield 9, 3) := by decide +kernel
theorem zd_Wr_writeMove_68 : decode zc_Wr_writeMove 68 = .ok (.aload_n 0, 1) := by decide +kernel
theorem zd_Wr_writeMove_69 : decode zc_Wr_writeMove 69 = .ok (.iload_n 2, 1) := by decide +kernel
theorem zd_Wr_writeMove_70 : decode zc_Wr_writeMove 70 = .ok (.putfield 18, 3) := by decide +kernel
theorem zd_Wr_writeMove_73 : decode zc_Wr_writeMove 73 = .ok (.return_, 1) := by decide +kernel
theorem zd_Wr_writeSigned_0 : decode zc_Wr_writeSigned 0 = .ok (.iload_n 1, 1) := by decide +kernel
theorem zd_Wr_writeSigned_1 : decode zc_Wr_writeSigned 1 = .ok (.istore_n 2, 1) := by decide +kernel
theorem zd_Wr_writeSigned_2 : decode zc_Wr_writeSigned 2 = .ok (.iconst 0, 1) := by decide +kernel
theorem zd_Wr_writeSigned_3 : decode zc_Wr_writeSigned 3 = .ok (.istore_n 3, 1) := by decide +kernel
theorem zd_Wr_writeSigned_4 : decode zc_Wr_writeSigned 4 = .ok (.iload_n 3, 1) := by decide +kernel
theorem zd_Wr_writeSigned_5 : decode zc_Wr_writeSigned 5 = .ok (.iconst 5, 1) := by decide +kernel
theorem zd_Wr_writeSigned_6 : decode zc_Wr_writeSigned 6 = .ok (.if_icmp .ge 41, 3) := by decide +kernel
theorem zd_Wr_writeSigned_9 : decode zc_Wr_writeSigned 9 = .ok (.iload_n 2, 1) := by decide +kernel
theorem zd_Wr_writeSigned_10 : decode zc_Wr_writeSigned 10 = .ok (.bipush (-64), 2) := by decide +kernel
theorem zd_Wr_writeSigned_12 : decode zc_Wr_writeSigned 12 = .ok (.if_icmp .lt 9, 3) := by decide +kernel
theorem zd_Wr_writeSigned_15 : decode zc_Wr_writeSigned 15 = .ok (.iload_n 2, 1) := by decide +kernel
theorem zd_Wr_writeSigned_16 : decode zc_Wr_writeSigned 16 = .ok (.bipush 63, 2) := by decide +kernel
theorem zd_Wr_writeSigned_18 : decode zc_Wr_writeSigned 18 = .ok (.if_icmp .le 29, 3) := by decide +kernel
theorem zd_Wr_writeSigned_21 : decode zc_Wr_writeSigned 21 = .ok (.aload_n 0, 1) := by decide +kernel
theorem zd_Wr_writeSigned_22 : decode zc_Wr_writeSigned 22 = .ok (.getfield 28, 3) := by decide +kernel
theorem zd_Wr_writeSigned_25 : decode zc_Wr_writeSigned 25 = .ok (.iload_n 2, 1) := by decide +kernel
theorem zd_Wr_writeSigned_26 : decode zc_Wr_writeSigned 26 = .ok (.bipush 127, 2) := by decide +kernel
theorem zd_Wr_writeSigned_28 : decode zc_Wr_writeSigned 28 = .ok (.iand, 1) := by decide +kernel
theorem zd_Wr_writeSigned_29 : decode zc_Wr_writeSigned 29 = .ok (.sipush 128, 3) := by decide +kernel
theorem zd_Wr_writeSigned_32 : decode zc_Wr_writeSigned 32 = .ok (.ior, 1) := by decide +kernel
theorem zd_Wr_writeSigned_33 : decode zc_Wr_writeSigned 33 = .ok (.invokevirtual 69, 3) := by decide +kernel
theorem zd_Wr_writeSigned_36 : decode zc_Wr_writeSigned 36 = .ok (.iload_n 2, 1) := by decide +kernel
theorem zd_Wr_writeSigned_37 : decode zc_Wr_writeSigned 37 = .ok (.bipush 7, 2) := by decide +kernel
theorem zd_Wr_writeSigned_39 : decode zc_Wr_writeSigned 39 = .ok (.ishr, 1) := by decide +kernel
theorem zd_Wr_writeSigned_40 : decode zc_Wr_writeSigned 40 = .ok (.istore_n 2, 1) := by decide +kernel
theorem zd_Wr_writeSigned_41 : decode zc_Wr_writeSigned 41 = .ok (.iinc 3 1, 3) := by decide +kernel
theorem zd_Wr_writeSigned_44 : decode zc_Wr_writeSigned 44 = .ok (.goto (-40), 3) := by decide +kernel
theorem zd_Wr_writeSigned_47 : decode zc_Wr_writeSigned 47 = .ok (.aload_n 0, 1) := by decide +kernel
theorem zd_Wr_writeSigned_48 : decode zc_Wr_writeSigned 48 = .ok (.getfield 28, 3) := by decide +kernel
theorem zd_Wr_writeSigned_51 : decode zc_Wr_writeSigned 51 = .ok (.iload_n 2, 1) := by decide +kernel
theorem zd_Wr_writeSigned_52 : decode zc_Wr_writeSigned 52 = .ok (.bipush 127, 2) := by decide +kernel
theorem zd_Wr_writeSigned_54 : decode zc_Wr_writeSigned 54 = .ok (.iand, 1) := by decide +kernel
theorem zd_Wr_writeSigned_55 : decode zc_Wr_writeSigned 55 = .ok (.invokevirtual 69, 3) := by decide +kernel
theorem zd_Wr_writeSigned_58 : decode zc_Wr_writeSigned 58 = .ok (.return_, 1) := by decide +kernel
theorem zd_Wr_writeSpecial_0 : decode zc_Wr_writeSpecial 0 = .ok (.iload_n 1, 1) := by decide +kernel
theorem zd_Wr_writeSpecial_1 : decode zc_Wr_writeSpecial 1 = .ok (.istore_n 3, 1) := by decide +kernel
theorem zd_Wr_writeSpecial_2 : decode zc_Wr_writeSpecial 2 = .ok (.aload_n 0, 1) := by decide +kernel
theorem zd_Wr_writeSpecial_3 : decode zc_Wr_writeSpecial 3 = .ok (.iload_n 3, 1) := by decide +kernel
theorem zd_Wr_writeSpecial_4 : decode zc_Wr_writeSpecial 4 = .ok (.iload_n 2, 1) := by decide +kernel
theorem zd_Wr_writeSpecial_5 : decode zc_Wr_writeSpecial 5 = .ok (.invokevirtual 89, 3) := by decide +kernel
theorem zd_Wr_writeSpecial_8 : decode zc_Wr_writeSpecial 8 = .ok (.invokestatic 93, 3) := by decide +kernel
theorem zd_Wr_writeSpecial_11 : decode zc_Wr_writeSpecial 11 = .ok (.ifCond .ne 71, 3) := by decide +kernel
theorem zd_Wr_writeSpecial_14 : decode zc_Wr_writeSpecial 14 = .ok (.iload_n 3, 1) := by decide +kernel
theorem zd_Wr_writeSpecial_15 : decode zc_Wr_writeSpecial 15 = .ok (.aload_n 0, 1) := by decide +kernel
theorem zd_Wr_writeSpecial_16 : decode zc_Wr_writeSpecial 16 = .ok (.getfield 24, 3) := by decide +kernel
theorem zd_Wr_writeSpecial_19 : decode zc_Wr_writeSpecial 19 = .ok (.getfield 97, 3) := by decide +kernel
theorem zd_Wr_writeSpecial_22 : decode zc_Wr_writeSpecial 22 = .ok (.if_icmp .lt 45, 3) := by decide +kernel
theorem zd_Wr_writeSpecial_25 : decode zc_Wr_writeSpecial 25 = .ok (.aload_n 0, 1) := by decide +kernel
theorem zd_Wr_writeSpecial_26 : decode zc_Wr_writeSpecial 26 = .ok (.iload_n 3, 1) := by decide +kernel
theorem zd_Wr_writeSpecial_27 : decode zc_Wr_writeSpecial 27 = .ok (.aload_n 0, 1) := by decide +kernel
theorem zd_Wr_writeSpecial_28 : decode zc_Wr_writeSpecial 28 = .ok (.getfield 24, 3) := by decide +kernel
theorem zd_Wr_writeSpecial_31 : decode zc_Wr_writeSpecial 31 = .ok (.getfield 97, 3) := by decide +kernel
theorem zd_Wr_writeSpecial_34 : decode zc_Wr_writeSpecial 34 = .ok (.isub, 1) := by decide +kernel
theorem zd_Wr_writeSpecial_35 : decode zc_Wr_writeSpecial 35 = .ok (.iload_n 2, 1) := by decide +kernel
theorem zd_Wr_writeSpecial_36 : decode zc_Wr_writeSpecial 36 = .ok (.invokevirtual 89, 3) := by decide +kernel
theorem zd_Wr_writeSpecial_39 : decode zc_Wr_writeSpecial 39 = .ok (.invokestatic 93, 3) := by decide +kernel
theorem zd_Wr_writeSpecial_42 : decode zc_Wr_writeSpecial 42 = .ok (.ifCond .eq 25, 3) := by decide +kernel
theorem zd_Wr_writeSpecial_45 : decode zc_Wr_writeSpecial 45 = .ok (.aload_n 0, 1) := by decide +kernel
theorem zd_Wr_writeSpecial_46 : decode zc_Wr_writeSpecial 46 = .ok (.getfield 28, 3) := by decide +kernel
theorem zd_Wr_writeSpecial_49 : decode zc_Wr_writeSpecial 49 = .ok (.bipush 8, 2) := by decide +kernel
theorem zd_Wr_writeSpecial_51 : decode zc_Wr_writeSpecial 51 = .ok (.invokevirtual 69, 3) := by decide +kernel
theorem zd_Wr_writeSpecial_54 : decode zc_Wr_writeSpecial 54 = .ok (.iload_n 3, 1) := by decide +kernel
theorem zd_Wr_writeSpecial_55 : decode zc_Wr_writeSpecial 55 = .ok (.aload_n 0, 1) := by decide +kernel
theorem zd_Wr_writeSpecial_56 : decode zc_Wr_writeSpecial 56 = .ok (.getfield 24, 3) := by decide +kernel
theorem zd_Wr_writeSpecial_59 : decode zc_Wr_writeSpecial 59 = .ok (.getfield 97, 3) := by decide +kernel
theorem zd_Wr_writeSpecial_62 : decode zc_Wr_writeSpecial 62 = .ok (.isub, 1) := by decide +kernel
theorem zd_Wr_writeSpecial_63 : decode zc_Wr_writeSpecial 63 = .ok (.istore_n 3, 1) := by decide +kernel
theorem zd_Wr_writeSpecial_64 : decode zc_Wr_writeSpecial 64 = .ok (.goto 18, 3) := by decide +kernel
theorem zd_Wr_writeSpecial_67 : decode zc_Wr_writeSpecial 67 = .ok (.aload_n 0, 1) := by decide +kernel
theorem zd_Wr_writeSpecial_68 : decode zc_Wr_writeSpecial 68 = .ok (.getfield 28, 3) := by decide +kernel
theorem zd_Wr_writeSpecial_71 : decode zc_Wr_writeSpecial 71 = .ok (.iconst 2, 1) := by decide +kernel
theorem zd_Wr_writeSpecial_72 : decode zc_Wr_writeSpecial 72 = .ok (.invokevirtual 69, 3) := by decide +kernel
theorem zd_Wr_writeSpecial_75 : decode zc_Wr_writeSpecial 75 = .ok (.aload_n 0, 1) := by decide +kernel
theorem zd_Wr_writeSpecial_76 : decode zc_Wr_writeSpecial 76 = .ok (.iload_n 3, 1) := by decide +kernel
theorem zd_Wr_writeSpecial_77 : decode zc_Wr_writeSpecial 77 = .ok (.invokevirtual 74, 3) := by decide +kernel
theorem zd_Wr_writeSpecial_80 : decode zc_Wr_writeSpecial 80 = .ok (.iconst 0, 1) := by decide +kernel
theorem zd_Wr_writeSpecial_81 : decode zc_Wr_writeSpecial 81 = .ok (.istore_n 3, 1) := by decide +kernel
theorem zd_Wr_writeSpecial_82 : decode zc_Wr_writeSpecial 82 = .ok (.aload_n 0, 1) := by decide +kernel
theorem zd_Wr_writeSpecial_83 : decode zc_Wr_writeSpecial 83 = .ok (.getfield 28, 3) := by decide +kernel
theorem zd_Wr_writeSpecial_86 : decode zc_Wr_writeSpecial 86 = .ok (.aload_n 0, 1) := by decide +kernel
theorem zd_Wr_writeSpecial_87 : decode zc_Wr_writeSpecial 87 = .ok (.iload_n 3, 1) := by decide +kernel
theorem zd_Wr_writeSpecial_88 : decode zc_Wr_writeSpecial 88 = .ok (.iload_n 2, 1) := by decide +kernel
theorem zd_Wr_writeSpecial_89 : decode zc_Wr_writeSpecial 89 = .ok (.invokevirtual 89, 3) := by decide +kernel
theorem zd_Wr_writeSpecial_92 : decode zc_Wr_writeSpecial 92 = .ok (.l2i, 1) := by decide +kernel
theorem zd_Wr_writeSpecial_93 : decode zc_Wr_writeSpecial 93 = .ok (.invokevirtual 69, 3) := by decide +kernel
theorem zd_Wr_writeSpecial_96 : decode zc_Wr_writeSpecial 96 = .ok (.return_, 1) := by decide +kernel
theorem zd_Wr_special_0 : decode zc_Wr_special 0 = .ok (.aload_n 0, 1) := by decide +kernel
theorem zd_Wr_special_1 : decode zc_Wr_special 1 = .ok (.getfield 24, 3) := by decide +kernel
theorem zd_Wr_special_4 : decode zc_Wr_special 4 = .ok (.getfield 100, 3) := by decide +kernel
theorem zd_Wr_special_7 : decode zc_Wr_special 7 = .ok (.iload_n 2, 1) := by decide +kernel
theorem zd_Wr_special_8 : decode zc_Wr_special 8 = .ok (.iadd, 1) := by decide +kernel
theorem zd_Wr_special_9 : decode zc_Wr_special 9 = .ok (.aload_n 0, 1) := by decide +kernel
theorem zd_Wr_special_10 : decode zc_Wr_special 10 = .ok (.getfield 24, 3) := by decide +kernel
theorem zd_Wr_special_13 : decode zc_Wr_special 13 = .ok (.getfield 77, 3) := by decide +kernel
theorem zd_Wr_special_16 : decode zc_Wr_special 16 = .ok (.isub, 1) := by decide +kernel
theorem zd_Wr_special_17 : decode zc_Wr_special 17 = .ok (.i2l, 1) := by decide +kernel
theorem zd_Wr_special_18 : decode zc_Wr_special 18 = .ok (.aload_n 0, 1) := by decide +kernel
theorem zd_Wr_special_19 : decode zc_Wr_special 19 = .ok (.getfield 24, 3) := by decide +kernel
theorem zd_Wr_special_22 : decode zc_Wr_special 22 = .ok (.getfield 80, 3) := by decide +kernel
theorem zd_Wr_special_25 : decode zc_Wr_special 25 = .ok (.i2l, 1) := by decide +kernel
theorem zd_Wr_special_26 : decode zc_Wr_special 26 = .ok (.iload_n 1, 1) := by decide +kernel
theorem zd_Wr_special_27 : decode zc_Wr_special 27 = .ok (.i2l, 1) := by decide +kernel
theorem zd_Wr_special_28 : decode zc_Wr_special 28 = .ok (.lmul, 1) := by decide +kernel
theorem zd_Wr_special_29 : decode zc_Wr_special 29 = .ok (.ladd, 1) := by decide +kernel
theorem zd_Wr_special_30 : decode zc_Wr_special 30 = .ok (.lreturn, 1) := by decide +kernel
theorem zd_Wr_isByte_0 : decode zc_Wr_isByte 0 = .ok (.lload_n 0, 1) := by decide +kernel
theorem zd_Wr_isByte_1 : decode zc_Wr_isByte 1 = .ok (.ldc2_w 103, 3) := by decide +kernel
theorem zd_Wr_isByte_4 : decode zc_Wr_isByte 4 = .ok (.lcmp, 1) := by decide +kernel
theorem zd_Wr_isByte_5 : decode zc_Wr_isByte 5 = .ok (.ifCond .gt 7, 3) := by decide +kernel
theorem zd_Wr_isByte_8 : decode zc_Wr_isByte 8 = .ok (.iconst 1, 1) := by decide +kernel
theorem zd_Wr_isByte_9 : decode zc_Wr_isByte 9 = .ok (.goto 4, 3) := by decide +kernel
theorem zd_Wr_isByte_12 : decode zc_Wr_isByte 12 = .ok (.iconst 0, 1) := by decide +kernel
theorem zd_Wr_isByte_13 : decode zc_Wr_isByte 13 = .ok (.ireturn, 1) := by decide +kernel
theorem zd_Wr_writeEnd_0 : decode zc_Wr_writeEnd 0 = .ok (.iload_n 1, 1) := by decide +kernel
theorem zd_Wr_writeEnd_1 : decode zc_Wr_writeEnd 1 = .ok (.aload_n 0, 1) := by decide +kernel
theorem zd_Wr_writeEnd_2 : decode zc_Wr_writeEnd 2 = .ok (.getfield 9, 3) := by decide +kernel
