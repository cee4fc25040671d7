theorem zd_Lp_init_0 : decode zc_Lp_init 0 = .ok (.aload_n 0, 1) := by decide +kernel
theorem zd_Lp_init_1 : decode zc_Lp_init 1 = .ok (.invokespecial 1, 3) := by decide +kernel
theorem zd_Lp_init_4 : decode zc_Lp_init 4 = .ok (.aload_n 0, 1) := by decide +kernel
theorem zd_Lp_init_5 : decode zc_Lp_init 5 = .ok (.new 7, 3) := by decide +kernel
theorem zd_Lp_init_8 : decode zc_Lp_init 8 = .ok (.dup, 1) := by decide +kernel
theorem zd_Lp_init_9 : decode zc_Lp_init 9 = .ok (.bipush 13, 2) := by decide +kernel
theorem zd_Lp_init_11 : decode zc_Lp_init 11 = .ok (.bipush 14, 2) := by decide +kernel
theorem zd_Lp_init_13 : decode zc_Lp_init 13 = .ok (.bipush (-5), 2) := by decide +kernel
theorem zd_Lp_init_15 : decode zc_Lp_init 15 = .ok (.iconst 1, 1) := by decide +kernel
theorem zd_Lp_init_16 : decode zc_Lp_init 16 = .ok (.invokespecial 9, 3) := by decide +kernel
theorem zd_Lp_init_19 : decode zc_Lp_init 19 = .ok (.putfield 12, 3) := by decide +kernel
theorem zd_Lp_init_22 : decode zc_Lp_init 22 = .ok (.aload_n 0, 1) := by decide +kernel
theorem zd_Lp_init_23 : decode zc_Lp_init 23 = .ok (.new 18, 3) := by decide +kernel
theorem zd_Lp_init_26 : decode zc_Lp_init 26 = .ok (.dup, 1) := by decide +kernel
theorem zd_Lp_init_27 : decode zc_Lp_init 27 = .ok (.invokespecial 20, 3) := by decide +kernel
theorem zd_Lp_init_30 : decode zc_Lp_init 30 = .ok (.putfield 21, 3) := by decide +kernel
theorem zd_Lp_init_33 : decode zc_Lp_init 33 = .ok (.aload_n 0, 1) := by decide +kernel
theorem zd_Lp_init_34 : decode zc_Lp_init 34 = .ok (.new 18, 3) := by decide +kernel
theorem zd_Lp_init_37 : decode zc_Lp_init 37 = .ok (.dup, 1) := by decide +kernel
theorem zd_Lp_init_38 : decode zc_Lp_init 38 = .ok (.invokespecial 20, 3) := by decide +kernel
theorem zd_Lp_init_41 : decode zc_Lp_init 41 = .ok (.putfield 25, 3) := by decide +kernel
theorem zd_Lp_init_44 : decode zc_Lp_init 44 = .ok (.aload_n 0, 1) := by decide +kernel
theorem zd_Lp_init_45 : decode zc_Lp_init 45 = .ok (.new 28, 3) := by decide +kernel
theorem zd_Lp_init_48 : decode zc_Lp_init 48 = .ok (.dup, 1) := by decide +kernel
theorem zd_Lp_init_49 : decode zc_Lp_init 49 = .ok (.invokespecial 30, 3) := by decide +kernel
theorem zd_Lp_init_52 : decode zc_Lp_init 52 = .ok (.putfield 31, 3) := by decide +kernel
theorem zd_Lp_init_55 : decode zc_Lp_init 55 = .ok (.aload_n 0, 1) := by decide +kernel
theorem zd_Lp_init_56 : decode zc_Lp_init 56 = .ok (.new 28, 3) := by decide +kernel
theorem zd_Lp_init_59 : decode zc_Lp_init 59 = .ok (.dup, 1) := by decide +kernel
theorem zd_Lp_init_60 : decode zc_Lp_init 60 = .ok (.invokespecial 30, 3) := by decide +kernel
theorem zd_Lp_init_63 : decode zc_Lp_init 63 = .ok (.putfield 35, 3) := by decide +kernel
theorem zd_Lp_init_66 : decode zc_Lp_init 66 = .ok (.aload_n 0, 1) := by decide +kernel
theorem zd_Lp_init_67 : decode zc_Lp_init 67 = .ok (.new 38, 3) := by decide +kernel
theorem zd_Lp_init_70 : decode zc_Lp_init 70 = .ok (.dup, 1) := by decide +kernel
theorem zd_Lp_init_71 : decode zc_Lp_init 71 = .ok (.invokespecial 40, 3) := by decide +kernel
theorem zd_Lp_init_74 : decode zc_Lp_init 74 = .ok (.putfield 41, 3) := by decide +kernel
theorem zd_Lp_init_77 : decode zc_Lp_init 77 = .ok (.return_, 1) := by decide +kernel
theorem zd_He_init_0 : decode zc_He_init 0 = .ok (.aload_n 0, 1) := by decide +kernel
theorem zd_He_init_1 : decode zc_He_init 1 = .ok (.invokespecial 1, 3) := by decide +kernel
theorem zd_He_init_4 : decode zc_He_init 4 = .ok (.aload_n 0, 1) := by decide +kernel
theorem zd_He_init_5 : decode zc_He_init 5 = .ok (.iload_n 1, 1) := by decide +kernel
theorem zd_He_init_6 : decode zc_He_init 6 = .ok (.putfield 7, 3) := by decide +kernel
theorem zd_He_init_9 : decode zc_He_init 9 = .ok (.aload_n 0, 1) := by decide +kernel
theorem zd_He_init_10 : decode zc_He_init 10 = .ok (.iload_n 2, 1) := by decide +kernel
theorem zd_He_init_11 : decode zc_He_init 11 = .ok (.putfield 13, 3) := by decide +kernel
theorem zd_He_init_14 : decode zc_He_init 14 = .ok (.aload_n 0, 1) := by decide +kernel
theorem zd_He_init_15 : decode zc_He_init 15 = .ok (.iload_n 3, 1) := by decide +kernel
theorem zd_He_init_16 : decode zc_He_init 16 = .ok (.putfield 16, 3) := by decide +kernel
theorem zd_He_init_19 : decode zc_He_init 19 = .ok (.aload_n 0, 1) := by decide +kernel
theorem zd_He_init_20 : decode zc_He_init 20 = .ok (.iload 4, 2) := by decide +kernel
theorem zd_He_init_22 : decode zc_He_init 22 = .ok (.putfield 19, 3) := by decide +kernel
theorem zd_He_init_25 : decode zc_He_init 25 = .ok (.aload_n 0, 1) := by decide +kernel
theorem zd_He_init_26 : decode zc_He_init 26 = .ok (.sipush 255, 3) := by decide +kernel
theorem zd_He_init_29 : decode zc_He_init 29 = .ok (.iload_n 1, 1) := by decide +kernel
theorem zd_He_init_30 : decode zc_He_init 30 = .ok (.isub, 1) := by decide +kernel
theorem zd_He_init_31 : decode zc_He_init 31 = .ok (.iload_n 2, 1) := by decide +kernel
theorem zd_He_init_32 : decode zc_He_init 32 = .ok (.idiv, 1) := by decide +kernel
theorem zd_He_init_33 : decode zc_He_init 33 = .ok (.putfield 22, 3) := by decide +kernel
theorem zd_He_init_36 : decode zc_He_init 36 = .ok (.return_, 1) := by decide +kernel
theorem zd_By_init_0 : decode zc_By_init 0 = .ok (.aload_n 0, 1) := by decide +kernel
theorem zd_By_init_1 : decode zc_By_init 1 = .ok (.invokespecial 3, 3) := by decide +kernel
theorem zd_By_init_4 : decode zc_By_init 4 = .ok (.aload_n 0, 1) := by decide +kernel
theorem zd_By_init_5 : decode zc_By_init 5 = .ok (.sipush 600, 3) := by decide +kernel
theorem zd_By_init_8 : decode zc_By_init 8 = .ok (.newarray .int, 2) := by decide +kernel
theorem zd_By_init_10 : decode zc_By_init 10 = .ok (.putfield 9, 3) := by decide +kernel
theorem zd_By_init_13 : decode zc_By_init 13 = .ok (.aload_n 0, 1) := by decide +kernel
theorem zd_By_init_14 : decode zc_By_init 14 = .ok (.iconst 0, 1) := by decide +kernel
theorem zd_By_init_15 : decode zc_By_init 15 = .ok (.putfield 15, 3) := by decide +kernel
theorem zd_By_init_18 : decode zc_By_init 18 = .ok (.return_, 1) := by decide +kernel
theorem zd_Ro_init_0 : decode zc_Ro_init 0 = .ok (.aload_n 0, 1) := by decide +kernel
theorem zd_Ro_init_1 : decode zc_Ro_init 1 = .ok (.invokespecial 3, 3) := by decide +kernel
theorem zd_Ro_init_4 : decode zc_Ro_init 4 = .ok (.aload_n 0, 1) := by decide +kernel
theorem zd_Ro_init_5 : decode zc_Ro_init 5 = .ok (.sipush 630, 3) := by decide +kernel
theorem zd_Ro_init_8 : decode zc_Ro_init 8 = .ok (.newarray .int, 2) := by decide +kernel
theorem zd_Ro_init_10 : decode zc_Ro_init 10 = .ok (.putfield 9, 3) := by decide +kernel
theorem zd_Ro_init_13 : decode zc_Ro_init 13 = .ok (.aload_n 0, 1) := by decide +kernel
theorem zd_Ro_init_14 : decode zc_Ro_init 14 = .ok (.iconst 0, 1) := by decide +kernel
theorem zd_Ro_init_15 : decode zc_Ro_init 15 = .ok (.putfield 15, 3) := by decide +kernel
theorem zd_Ro_init_18 : decode zc_Ro_init 18 = .ok (.return_, 1) := by decide +kernel
theorem zd_Ta_init_0 : decode zc_Ta_init 0 = .ok (.aload_n 0, 1) := by decide +kernel
theorem zd_Ta_init_1 : decode zc_Ta_init 1 = .ok (.invokespecial 3, 3) := by decide +kernel
theorem zd_Ta_init_4 : decode zc_Ta_init 4 = .ok (.aload_n 0, 1) := by decide +kernel
theorem zd_Ta_init_5 : decode zc_Ta_init 5 = .ok (.sipush 300, 3) := by decide +kernel
theorem zd_Ta_init_8 : decode zc_Ta_init 8 = .ok (.newarray .int, 2) := by decide +kernel
theorem zd_Ta_init_10 : decode zc_Ta_init 10 = .ok (.putfield 9, 3) := by decide +kernel
theorem zd_Ta_init_13 : decode zc_Ta_init 13 = .ok (.aload_n 0, 1) := by decide +kernel
theorem zd_Ta_init_14 : decode zc_Ta_init 14 = .ok (.iconst 0, 1) := by decide +kernel
theorem zd_Ta_init_15 : decode zc_Ta_init 15 = .ok (.putfield 15, 3) := by decide +kernel
theorem zd_Ta_init_18 : decode zc_Ta_init 18 = .ok (.return_, 1) := by decide +kernel
theorem zd_Lp_header_0 : decode zc_Lp_header 0 = .ok (.iload_n 1, 1) := by decide +kernel
theorem zd_Lp_header_1 : decode zc_Lp_header 1 = .ok (.iload_n 2, 1) := by decide +kernel
theorem zd_Lp_header_2 : decode zc_Lp_header 2 = .ok (.iload_n 3, 1) := by decide +kernel
theorem zd_Lp_header_3 : decode zc_Lp_header 3 = .ok (.iload 4, 2) := by decide +kernel
theorem zd_Lp_header_5 : decode zc_Lp_header 5 = .ok (.invokestatic 45, 3) := by decide +kernel
theorem zd_Lp_header_8 : decode zc_Lp_header 8 = .ok (.ifCond .ne 5, 3) := by decide +kernel
theorem zd_Lp_header_11 : decode zc_Lp_header 11 = .ok (.iconst 0, 1) := by decide +kernel
theorem zd_Lp_header_12 : decode zc_Lp_header 12 = .ok (.ireturn, 1) := by decide +kernel
theorem zd_Lp_header_13 : decode zc_Lp_header 13 = .ok (.aload_n 0, 1) := by decide +kernel
theorem zd_Lp_header_14 : decode zc_Lp_header 14 = .ok (.new 7, 3) := by decide +kernel
theorem zd_Lp_header_17 : decode zc_Lp_header 17 = .ok (.dup, 1) := by decide +kernel
theorem zd_Lp_header_18 : decode zc_Lp_header 18 = .ok (.iload_n 1, 1) := by decide +kernel
theorem zd_Lp_header_19 : decode zc_Lp_header 19 = .ok (.iload_n 2, 1) := by decide +kernel
theorem zd_Lp_header_20 : decode zc_Lp_header 20 = .ok (.iload_n 3, 1) := by decide +kernel
theorem zd_Lp_header_21 : decode zc_Lp_header 21 = .ok (.iload 4, 2) := by decide +kernel
theorem zd_Lp_header_23 : decode zc_Lp_header 23 = .ok (.invokespecial 9, 3) := by decide +kernel
theorem zd_Lp_header_26 : decode zc_Lp_header 26 = .ok (.putfield 12, 3) := by decide +kernel
theorem zd_Lp_header_29 : decode zc_Lp_header 29 = .ok (.iconst 1, 1) := by decide +kernel
theorem zd_Lp_header_30 : decode zc_Lp_header 30 = .ok (.ireturn, 1) := by decide +kernel
theorem zd_Lp_isHeader_0 : decode zc_Lp_isHeader 0 = .ok (.iload_n 0, 1) := by decide +kernel
theorem zd_Lp_isHeader_1 : decode zc_Lp_isHeader 1 = .ok (.bipush 10, 2) := by decide +kernel
theorem zd_Lp_isHeader_3 : decode zc_Lp_isHeader 3 = .ok (.if_icmp .lt 49, 3) := by decide +kernel
theorem zd_Lp_isHeader_6 : decode zc_Lp_isHeader 6 = .ok (.iload_n 0, 1) := by decide +kernel
theorem zd_Lp_isHeader_7 : decode zc_Lp_isHeader 7 = .ok (.bipush 20, 2) := by decide +kernel
theorem zd_Lp_isHeader_9 : decode zc_Lp_isHeader 9 = .ok (.if_icmp .gt 43, 3) := by decide +kernel
theorem zd_Lp_isHeader_12 : decode zc_Lp_isHeader 12 = .ok (.iload_n 1, 1) := by decide +kernel
theorem zd_Lp_isHeader_13 : decode zc_Lp_isHeader 13 = .ok (.iconst 1, 1) := by decide +kernel
theorem zd_Lp_isHeader_14 : decode zc_Lp_isHeader 14 = .ok (.if_icmp .lt 38, 3) := by decide +kernel
theorem zd_Lp_isHeader_17 : decode zc_Lp_isHeader 17 = .ok (.iload_n 1, 1) := by decide +kernel
theorem zd_Lp_isHeader_18 : decode zc_Lp_isHeader 18 = .ok (.bipush 30, 2) := by decide +kernel
theorem zd_Lp_isHeader_20 : decode zc_Lp_isHeader 20 = .ok (.if_icmp .gt 32, 3) := by decide +kernel
theorem zd_Lp_isHeader_23 : decode zc_Lp_isHeader 23 = .ok (.iload_n 2, 1) := by decide +kernel
theorem zd_Lp_isHeader_24 : decode zc_Lp_isHeader 24 = .ok (.bipush (-20), 2) := by decide +kernel
theorem zd_Lp_isHeader_26 : decode zc_Lp_isHeader 26 = .ok (.if_icmp .lt 26, 3) := by decide +kernel
theorem zd_Lp_isHeader_29 : decode zc_Lp_isHeader 29 = .ok (.iload_n 2, 1) := by decide +kernel
theorem zd_Lp_isHeader_30 : decode zc_Lp_isHeader 30 = .ok (.ifCond .gt 22, 3) := by decide +kernel
theorem zd_Lp_isHeader_33 : decode zc_Lp_isHeader 33 = .ok (.iload_n 3, 1) := by decide +kernel
theorem zd_Lp_isHeader_34 : decode zc_Lp_isHeader 34 = .ok (.ifCond .eq 8, 3) := by decide +kernel
theorem zd_Lp_isHeader_37 : decode zc_Lp_isHeader 37 = .ok (.iload_n 3, 1) := by decide +kernel
theorem zd_Lp_isHeader_38 : decode zc_Lp_isHeader 38 = .ok (.iconst 1, 1) := by decide +kernel
theorem zd_Lp_isHeader_39 : decode zc_Lp_isHeader 39 = .ok (.if_icmp .ne 13, 3) := by decide +kernel
theorem zd_Lp_isHeader_42 : decode zc_Lp_isHeader 42 = .ok (.iload_n 2, 1) := by decide +kernel
theorem zd_Lp_isHeader_43 : decode zc_Lp_isHeader 43 = .ok (.iload_n 1, 1) := by decide +kernel
theorem zd_Lp_isHeader_44 : decode zc_Lp_isHeader 44 = .ok (.iadd, 1) := by decide +kernel
theorem zd_Lp_isHeader_45 : decode zc_Lp_isHeader 45 = .ok (.ifCond .le 7, 3) := by decide +kernel
theorem zd_Lp_isHeader_48 : decode zc_Lp_isHeader 48 = .ok (.iconst 1, 1) := by decide +kernel
theorem zd_Lp_isHeader_49 : decode zc_Lp_isHeader 49 = .ok (.goto 4, 3) := by decide +kernel
theorem zd_Lp_isHeader_52 : decode zc_Lp_isHeader 52 = .ok (.iconst 0, 1) := by decide +kernel
theorem zd_Lp_isHeader_53 : decode zc_Lp_isHeader 53 = .ok (.ireturn, 1) := by decide +kernel
theorem zd_Lp_clear_0 : decode zc_Lp_clear 0 = .ok (.aload_n 0, 1) := by decide +kernel
theorem zd_Lp_clear_1 : decode zc_Lp_clear 1 = .ok (.getfield 21, 3) := by decide +kernel
theorem zd_Lp_clear_4 : decode zc_Lp_clear 4 = .ok (.getfield 53, 3) := by decide +kernel
theorem zd_Lp_clear_7 : decode zc_Lp_clear 7 = .ok (.istore_n 1, 1) := by decide +kernel
theorem zd_Lp_clear_8 : decode zc_Lp_clear 8 = .ok (.aload_n 0, 1) := by decide +kernel
theorem zd_Lp_clear_9 : decode zc_Lp_clear 9 = .ok (.getfield 21, 3) := by decide +kernel
theorem zd_Lp_clear_12 : decode zc_Lp_clear 12 = .ok (.iconst 0, 1) := by decide +kernel
theorem zd_Lp_clear_13 : decode zc_Lp_clear 13 = .ok (.putfield 53, 3) := by decide +kernel
theorem zd_Lp_clear_16 : decode zc_Lp_clear 16 = .ok (.iload_n 1, 1) := by decide +kernel
theorem zd_Lp_clear_17 : decode zc_Lp_clear 17 = .ok (.ireturn, 1) := by decide +kernel
theorem zd_Lp_byteAt_0 : decode zc_Lp_byteAt 0 = .ok (.iload_n 1, 1) := by decide +kernel
theorem zd_Lp_byteAt_1 : decode zc_Lp_byteAt 1 = .ok (.ifCond .lt 25, 3) := by decide +kernel
