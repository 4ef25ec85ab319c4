theorem dX1_init_0 : decode cX1_init 0 = .ok (.aload_n 0, 1) := by decide +kernel
theorem dX1_init_1 : decode cX1_init 1 = .ok (.invokespecial 5, 3) := by decide +kernel
theorem dX1_init_4 : decode cX1_init 4 = .ok (.aload_n 0, 1) := by decide +kernel
theorem dX1_init_5 : decode cX1_init 5 = .ok (.iconst 3, 1) := by decide +kernel
theorem dX1_init_6 : decode cX1_init 6 = .ok (.newarray .int, 2) := by decide +kernel
theorem dX1_init_8 : decode cX1_init 8 = .ok (.putfield 13, 3) := by decide +kernel
theorem dX1_init_11 : decode cX1_init 11 = .ok (.return_, 1) := by decide +kernel
theorem dX2_init_0 : decode cX2_init 0 = .ok (.aload_n 0, 1) := by decide +kernel
theorem dX2_init_1 : decode cX2_init 1 = .ok (.invokespecial 5, 3) := by decide +kernel
theorem dX2_init_4 : decode cX2_init 4 = .ok (.aload_n 0, 1) := by decide +kernel
theorem dX2_init_5 : decode cX2_init 5 = .ok (.bipush 64, 2) := by decide +kernel
theorem dX2_init_7 : decode cX2_init 7 = .ok (.newarray .int, 2) := by decide +kernel
theorem dX2_init_9 : decode cX2_init 9 = .ok (.putfield 13, 3) := by decide +kernel
theorem dX2_init_12 : decode cX2_init 12 = .ok (.return_, 1) := by decide +kernel
theorem dX3_init_0 : decode cX3_init 0 = .ok (.aload_n 0, 1) := by decide +kernel
theorem dX3_init_1 : decode cX3_init 1 = .ok (.invokespecial 3, 3) := by decide +kernel
theorem dX3_init_4 : decode cX3_init 4 = .ok (.aload_n 0, 1) := by decide +kernel
theorem dX3_init_5 : decode cX3_init 5 = .ok (.lconst 0, 1) := by decide +kernel
theorem dX3_init_6 : decode cX3_init 6 = .ok (.putfield 9, 3) := by decide +kernel
theorem dX3_init_9 : decode cX3_init 9 = .ok (.aload_n 0, 1) := by decide +kernel
theorem dX3_init_10 : decode cX3_init 10 = .ok (.iconst 0, 1) := by decide +kernel
theorem dX3_init_11 : decode cX3_init 11 = .ok (.putfield 15, 3) := by decide +kernel
theorem dX3_init_14 : decode cX3_init 14 = .ok (.aload_n 0, 1) := by decide +kernel
theorem dX3_init_15 : decode cX3_init 15 = .ok (.bipush 8, 2) := by decide +kernel
theorem dX3_init_17 : decode cX3_init 17 = .ok (.newarray .int, 2) := by decide +kernel
theorem dX3_init_19 : decode cX3_init 19 = .ok (.putfield 19, 3) := by decide +kernel
theorem dX3_init_22 : decode cX3_init 22 = .ok (.aload_n 0, 1) := by decide +kernel
theorem dX3_init_23 : decode cX3_init 23 = .ok (.new 23, 3) := by decide +kernel
theorem dX3_init_26 : decode cX3_init 26 = .ok (.dup, 1) := by decide +kernel
theorem dX3_init_27 : decode cX3_init 27 = .ok (.invokespecial 25, 3) := by decide +kernel
theorem dX3_init_30 : decode cX3_init 30 = .ok (.putfield 26, 3) := by decide +kernel
theorem dX3_init_33 : decode cX3_init 33 = .ok (.aload_n 0, 1) := by decide +kernel
theorem dX3_init_34 : decode cX3_init 34 = .ok (.iconst 0, 1) := by decide +kernel
theorem dX3_init_35 : decode cX3_init 35 = .ok (.putfield 30, 3) := by decide +kernel
theorem dX3_init_38 : decode cX3_init 38 = .ok (.aload_n 0, 1) := by decide +kernel
theorem dX3_init_39 : decode cX3_init 39 = .ok (.bipush 16, 2) := by decide +kernel
theorem dX3_init_41 : decode cX3_init 41 = .ok (.anewarray 33, 3) := by decide +kernel
theorem dX3_init_44 : decode cX3_init 44 = .ok (.putfield 35, 3) := by decide +kernel
theorem dX3_init_47 : decode cX3_init 47 = .ok (.aload_n 0, 1) := by decide +kernel
theorem dX3_init_48 : decode cX3_init 48 = .ok (.iconst 1, 1) := by decide +kernel
theorem dX3_init_49 : decode cX3_init 49 = .ok (.putfield 39, 3) := by decide +kernel
theorem dX3_init_52 : decode cX3_init 52 = .ok (.iconst 0, 1) := by decide +kernel
theorem dX3_init_53 : decode cX3_init 53 = .ok (.istore_n 1, 1) := by decide +kernel
theorem dX3_init_54 : decode cX3_init 54 = .ok (.iload_n 1, 1) := by decide +kernel
theorem dX3_init_55 : decode cX3_init 55 = .ok (.bipush 16, 2) := by decide +kernel
theorem dX3_init_57 : decode cX3_init 57 = .ok (.if_icmp .ge 22, 3) := by decide +kernel
theorem dX3_init_60 : decode cX3_init 60 = .ok (.aload_n 0, 1) := by decide +kernel
theorem dX3_init_61 : decode cX3_init 61 = .ok (.getfield 35, 3) := by decide +kernel
theorem dX3_init_64 : decode cX3_init 64 = .ok (.iload_n 1, 1) := by decide +kernel
theorem dX3_init_65 : decode cX3_init 65 = .ok (.new 33, 3) := by decide +kernel
theorem dX3_init_68 : decode cX3_init 68 = .ok (.dup, 1) := by decide +kernel
theorem dX3_init_69 : decode cX3_init 69 = .ok (.invokespecial 42, 3) := by decide +kernel
theorem dX3_init_72 : decode cX3_init 72 = .ok (.aastore, 1) := by decide +kernel
theorem dX3_init_73 : decode cX3_init 73 = .ok (.iinc 1 1, 3) := by decide +kernel
theorem dX3_init_76 : decode cX3_init 76 = .ok (.goto (-22), 3) := by decide +kernel
theorem dX3_init_79 : decode cX3_init 79 = .ok (.return_, 1) := by decide +kernel
theorem dX4_init_0 : decode cX4_init 0 = .ok (.aload_n 0, 1) := by decide +kernel
theorem dX4_init_1 : decode cX4_init 1 = .ok (.invokespecial 3, 3) := by decide +kernel
theorem dX4_init_4 : decode cX4_init 4 = .ok (.aload_n 0, 1) := by decide +kernel
theorem dX4_init_5 : decode cX4_init 5 = .ok (.new 9, 3) := by decide +kernel
theorem dX4_init_8 : decode cX4_init 8 = .ok (.dup, 1) := by decide +kernel
theorem dX4_init_9 : decode cX4_init 9 = .ok (.invokespecial 11, 3) := by decide +kernel
theorem dX4_init_12 : decode cX4_init 12 = .ok (.putfield 12, 3) := by decide +kernel
theorem dX4_init_15 : decode cX4_init 15 = .ok (.aload_n 0, 1) := by decide +kernel
theorem dX4_init_16 : decode cX4_init 16 = .ok (.iconst 0, 1) := by decide +kernel
theorem dX4_init_17 : decode cX4_init 17 = .ok (.putfield 18, 3) := by decide +kernel
theorem dX4_init_20 : decode cX4_init 20 = .ok (.aload_n 0, 1) := by decide +kernel
theorem dX4_init_21 : decode cX4_init 21 = .ok (.iconst 0, 1) := by decide +kernel
theorem dX4_init_22 : decode cX4_init 22 = .ok (.putfield 22, 3) := by decide +kernel
theorem dX4_init_25 : decode cX4_init 25 = .ok (.aload_n 0, 1) := by decide +kernel
theorem dX4_init_26 : decode cX4_init 26 = .ok (.iconst 0, 1) := by decide +kernel
theorem dX4_init_27 : decode cX4_init 27 = .ok (.putfield 25, 3) := by decide +kernel
theorem dX4_init_30 : decode cX4_init 30 = .ok (.return_, 1) := by decide +kernel
theorem dX5_init_0 : decode cX5_init 0 = .ok (.aload_n 0, 1) := by decide +kernel
theorem dX5_init_1 : decode cX5_init 1 = .ok (.invokespecial 3, 3) := by decide +kernel
theorem dX5_init_4 : decode cX5_init 4 = .ok (.aload_n 0, 1) := by decide +kernel
theorem dX5_init_5 : decode cX5_init 5 = .ok (.bipush 8, 2) := by decide +kernel
theorem dX5_init_7 : decode cX5_init 7 = .ok (.newarray .int, 2) := by decide +kernel
theorem dX5_init_9 : decode cX5_init 9 = .ok (.putfield 11, 3) := by decide +kernel
theorem dX5_init_12 : decode cX5_init 12 = .ok (.aload_n 0, 1) := by decide +kernel
theorem dX5_init_13 : decode cX5_init 13 = .ok (.bipush 8, 2) := by decide +kernel
theorem dX5_init_15 : decode cX5_init 15 = .ok (.newarray .int, 2) := by decide +kernel
theorem dX5_init_17 : decode cX5_init 17 = .ok (.putfield 17, 3) := by decide +kernel
theorem dX5_init_20 : decode cX5_init 20 = .ok (.return_, 1) := by decide +kernel
theorem dX6_init_0 : decode cX6_init 0 = .ok (.aload_n 0, 1) := by decide +kernel
theorem dX6_init_1 : decode cX6_init 1 = .ok (.invokespecial 3, 3) := by decide +kernel
theorem dX6_init_4 : decode cX6_init 4 = .ok (.aload_n 0, 1) := by decide +kernel
theorem dX6_init_5 : decode cX6_init 5 = .ok (.iconst 0, 1) := by decide +kernel
theorem dX6_init_6 : decode cX6_init 6 = .ok (.putfield 11, 3) := by decide +kernel
theorem dX6_init_9 : decode cX6_init 9 = .ok (.aload_n 0, 1) := by decide +kernel
theorem dX6_init_10 : decode cX6_init 10 = .ok (.iconst 0, 1) := by decide +kernel
theorem dX6_init_11 : decode cX6_init 11 = .ok (.putfield 15, 3) := by decide +kernel
theorem dX6_init_14 : decode cX6_init 14 = .ok (.aload_n 0, 1) := by decide +kernel
theorem dX6_init_15 : decode cX6_init 15 = .ok (.iconst 0, 1) := by decide +kernel
theorem dX6_init_16 : decode cX6_init 16 = .ok (.putfield 18, 3) := by decide +kernel
theorem dX6_init_19 : decode cX6_init 19 = .ok (.aload_n 0, 1) := by decide +kernel
theorem dX6_init_20 : decode cX6_init 20 = .ok (.iconst 0, 1) := by decide +kernel
theorem dX6_init_21 : decode cX6_init 21 = .ok (.putfield 21, 3) := by decide +kernel
theorem dX6_init_24 : decode cX6_init 24 = .ok (.return_, 1) := by decide +kernel
theorem dX7_init_0 : decode cX7_init 0 = .ok (.aload_n 0, 1) := by decide +kernel
theorem dX7_init_1 : decode cX7_init 1 = .ok (.invokespecial 3, 3) := by decide +kernel
theorem dX7_init_4 : decode cX7_init 4 = .ok (.aload_n 0, 1) := by decide +kernel
theorem dX7_init_5 : decode cX7_init 5 = .ok (.iconst (-1), 1) := by decide +kernel
theorem dX7_init_6 : decode cX7_init 6 = .ok (.putfield 9, 3) := by decide +kernel
theorem dX7_init_9 : decode cX7_init 9 = .ok (.aload_n 0, 1) := by decide +kernel
theorem dX7_init_10 : decode cX7_init 10 = .ok (.iconst 0, 1) := by decide +kernel
theorem dX7_init_11 : decode cX7_init 11 = .ok (.putfield 15, 3) := by decide +kernel
theorem dX7_init_14 : decode cX7_init 14 = .ok (.aload_n 0, 1) := by decide +kernel
theorem dX7_init_15 : decode cX7_init 15 = .ok (.bipush 40, 2) := by decide +kernel
theorem dX7_init_17 : decode cX7_init 17 = .ok (.newarray .long, 2) := by decide +kernel
theorem dX7_init_19 : decode cX7_init 19 = .ok (.putfield 18, 3) := by decide +kernel
theorem dX7_init_22 : decode cX7_init 22 = .ok (.return_, 1) := by decide +kernel
theorem dX8_init_0 : decode cX8_init 0 = .ok (.aload_n 0, 1) := by decide +kernel
theorem dX8_init_1 : decode cX8_init 1 = .ok (.invokespecial 3, 3) := by decide +kernel
theorem dX8_init_4 : decode cX8_init 4 = .ok (.aload_n 0, 1) := by decide +kernel
theorem dX8_init_5 : decode cX8_init 5 = .ok (.sipush 250, 3) := by decide +kernel
theorem dX8_init_8 : decode cX8_init 8 = .ok (.newarray .int, 2) := by decide +kernel
theorem dX8_init_10 : decode cX8_init 10 = .ok (.putfield 11, 3) := by decide +kernel
theorem dX8_init_13 : decode cX8_init 13 = .ok (.aload_n 0, 1) := by decide +kernel
theorem dX8_init_14 : decode cX8_init 14 = .ok (.iconst 0, 1) := by decide +kernel
theorem dX8_init_15 : decode cX8_init 15 = .ok (.putfield 15, 3) := by decide +kernel
theorem dX8_init_18 : decode cX8_init 18 = .ok (.return_, 1) := by decide +kernel
theorem dX9_init_0 : decode cX9_init 0 = .ok (.aload_n 0, 1) := by decide +kernel
theorem dX9_init_1 : decode cX9_init 1 = .ok (.invokespecial 3, 3) := by decide +kernel
theorem dX9_init_4 : decode cX9_init 4 = .ok (.aload_n 0, 1) := by decide +kernel
theorem dX9_init_5 : decode cX9_init 5 = .ok (.bipush 64, 2) := by decide +kernel
theorem dX9_init_7 : decode cX9_init 7 = .ok (.newarray .long, 2) := by decide +kernel
theorem dX9_init_9 : decode cX9_init 9 = .ok (.putfield 11, 3) := by decide +kernel
theorem dX9_init_12 : decode cX9_init 12 = .ok (.return_, 1) := by decide +kernel
theorem dX10_init_0 : decode cX10_init 0 = .ok (.aload_n 0, 1) := by decide +kernel
theorem dX10_init_1 : decode cX10_init 1 = .ok (.invokespecial 1, 3) := by decide +kernel
theorem dX10_init_4 : decode cX10_init 4 = .ok (.aload_n 0, 1) := by decide +kernel
theorem dX10_init_5 : decode cX10_init 5 = .ok (.new 7, 3) := by decide +kernel
theorem dX10_init_8 : decode cX10_init 8 = .ok (.dup, 1) := by decide +kernel
theorem dX10_init_9 : decode cX10_init 9 = .ok (.invokespecial 9, 3) := by decide +kernel
theorem dX10_init_12 : decode cX10_init 12 = .ok (.putfield 10, 3) := by decide +kernel
theorem dX10_init_15 : decode cX10_init 15 = .ok (.aload_n 0, 1) := by decide +kernel
theorem dX10_init_16 : decode cX10_init 16 = .ok (.new 7, 3) := by decide +kernel
theorem dX10_init_19 : decode cX10_init 19 = .ok (.dup, 1) := by decide +kernel
theorem dX10_init_20 : decode cX10_init 20 = .ok (.invokespecial 9, 3) := by decide +kernel
theorem dX10_init_23 : decode cX10_init 23 = .ok (.putfield 16, 3) := by decide +kernel
theorem dX10_init_26 : decode cX10_init 26 = .ok (.aload_n 0, 1) := by decide +kernel
theorem dX10_init_27 : decode cX10_init 27 = .ok (.new 7, 3) := by decide +kernel
theorem dX10_init_30 : decode cX10_init 30 = .ok (.dup, 1) := by decide +kernel
theorem dX10_init_31 : decode cX10_init 31 = .ok (.invokespecial 9, 3) := by decide +kernel
theorem dX10_init_34 : decode cX10_init 34 = .ok (.putfield 19, 3) := by decide +kernel
theorem dX10_init_37 : decode cX10_init 37 = .ok (.aload_n 0, 1) := by decide +kernel
theorem dX10_init_38 : decode cX10_init 38 = .ok (.iconst 0, 1) := by decide +kernel
theorem dX10_init_39 : decode cX10_init 39 = .ok (.putfield 22, 3) := by decide +kernel
theorem dX10_init_42 : decode cX10_init 42 = .ok (.aload_n 0, 1) := by decide +kernel
theorem dX10_init_43 : decode cX10_init 43 = .ok (.bipush 8, 2) := by decide +kernel
theorem dX10_init_45 : decode cX10_init 45 = .ok (.anewarray 26, 3) := by decide +kernel
theorem dX10_init_48 : decode cX10_init 48 = .ok (.putfield 28, 3) := by decide +kernel
theorem dX10_init_51 : decode cX10_init 51 = .ok (.aload_n 0, 1) := by decide +kernel
theorem dX10_init_52 : decode cX10_init 52 = .ok (.new 32, 3) := by decide +kernel
theorem dX10_init_55 : decode cX10_init 55 = .ok (.dup, 1) := by decide +kernel
theorem dX10_init_56 : decode cX10_init 56 = .ok (.invokespecial 34, 3) := by decide +kernel
theorem dX10_init_59 : decode cX10_init 59 = .ok (.putfield 35, 3) := by decide +kernel
theorem dX10_init_62 : decode cX10_init 62 = .ok (.aload_n 0, 1) := by decide +kernel
theorem dX10_init_63 : decode cX10_init 63 = .ok (.new 39, 3) := by decide +kernel
theorem dX10_init_66 : decode cX10_init 66 = .ok (.dup, 1) := by decide +kernel
theorem dX10_init_67 : decode cX10_init 67 = .ok (.invokespecial 41, 3) := by decide +kernel
theorem dX10_init_70 : decode cX10_init 70 = .ok (.putfield 42, 3) := by decide +kernel
theorem dX10_init_73 : decode cX10_init 73 = .ok (.aload_n 0, 1) := by decide +kernel
theorem dX10_init_74 : decode cX10_init 74 = .ok (.new 46, 3) := by decide +kernel
theorem dX10_init_77 : decode cX10_init 77 = .ok (.dup, 1) := by decide +kernel
theorem dX10_init_78 : decode cX10_init 78 = .ok (.invokespecial 48, 3) := by decide +kernel
theorem dX10_init_81 : decode cX10_init 81 = .ok (.putfield 49, 3) := by decide +kernel
theorem dX10_init_84 : decode cX10_init 84 = .ok (.aload_n 0, 1) := by decide +kernel
theorem dX10_init_85 : decode cX10_init 85 = .ok (.new 53, 3) := by decide +kernel
theorem dX10_init_88 : decode cX10_init 88 = .ok (.dup, 1) := by decide +kernel
theorem dX10_init_89 : decode cX10_init 89 = .ok (.invokespecial 55, 3) := by decide +kernel
theorem dX10_init_92 : decode cX10_init 92 = .ok (.putfield 56, 3) := by decide +kernel
theorem dX10_init_95 : decode cX10_init 95 = .ok (.aload_n 0, 1) := by decide +kernel
theorem dX10_init_96 : decode cX10_init 96 = .ok (.iconst 5, 1) := by decide +kernel
theorem dX10_init_97 : decode cX10_init 97 = .ok (.newarray .int, 2) := by decide +kernel
theorem dX10_init_99 : decode cX10_init 99 = .ok (.putfield 60, 3) := by decide +kernel
theorem dX10_init_102 : decode cX10_init 102 = .ok (.aload_n 0, 1) := by decide +kernel
theorem dX10_init_103 : decode cX10_init 103 = .ok (.bipush 8, 2) := by decide +kernel
theorem dX10_init_105 : decode cX10_init 105 = .ok (.newarray .int, 2) := by decide +kernel
theorem dX10_init_107 : decode cX10_init 107 = .ok (.putfield 64, 3) := by decide +kernel
theorem dX10_init_110 : decode cX10_init 110 = .ok (.iconst 0, 1) := by decide +kernel
theorem dX10_init_111 : decode cX10_init 111 = .ok (.istore_n 1, 1) := by decide +kernel
theorem dX10_init_112 : decode cX10_init 112 = .ok (.iload_n 1, 1) := by decide +kernel
theorem dX10_init_113 : decode cX10_init 113 = .ok (.bipush 8, 2) := by decide +kernel
theorem dX10_init_115 : decode cX10_init 115 = .ok (.if_icmp .ge 22, 3) := by decide +kernel
theorem dX10_init_118 : decode cX10_init 118 = .ok (.aload_n 0, 1) := by decide +kernel
theorem dX10_init_119 : decode cX10_init 119 = .ok (.getfield 28, 3) := by decide +kernel
theorem dX10_init_122 : decode cX10_init 122 = .ok (.iload_n 1, 1) := by decide +kernel
theorem dX10_init_123 : decode cX10_init 123 = .ok (.new 26, 3) := by decide +kernel
theorem dX10_init_126 : decode cX10_init 126 = .ok (.dup, 1) := by decide +kernel
theorem dX10_init_127 : decode cX10_init 127 = .ok (.invokespecial 67, 3) := by decide +kernel
theorem dX10_init_130 : decode cX10_init 130 = .ok (.aastore, 1) := by decide +kernel
theorem dX10_init_131 : decode cX10_init 131 = .ok (.iinc 1 1, 3) := by decide +kernel
theorem dX10_init_134 : decode cX10_init 134 = .ok (.goto (-22), 3) := by decide +kernel
theorem dX10_init_137 : decode cX10_init 137 = .ok (.return_, 1) := by decide +kernel
theorem dX11_init_0 : decode cX11_init 0 = .ok (.aload_n 0, 1) := by decide +kernel
theorem dX11_init_1 : decode cX11_init 1 = .ok (.invokespecial 1, 3) := by decide +kernel
theorem dX11_init_4 : decode cX11_init 4 = .ok (.aload_n 0, 1) := by decide +kernel
theorem dX11_init_5 : decode cX11_init 5 = .ok (.bipush 64, 2) := by decide +kernel
theorem dX11_init_7 : decode cX11_init 7 = .ok (.newarray .boolean, 2) := by decide +kernel
theorem dX11_init_9 : decode cX11_init 9 = .ok (.putfield 7, 3) := by decide +kernel
theorem dX11_init_12 : decode cX11_init 12 = .ok (.aload_n 0, 1) := by decide +kernel
theorem dX11_init_13 : decode cX11_init 13 = .ok (.bipush 8, 2) := by decide +kernel
theorem dX11_init_15 : decode cX11_init 15 = .ok (.newarray .int, 2) := by decide +kernel
theorem dX11_init_17 : decode cX11_init 17 = .ok (.putfield 13, 3) := by decide +kernel
theorem dX11_init_20 : decode cX11_init 20 = .ok (.aload_n 0, 1) := by decide +kernel
theorem dX11_init_21 : decode cX11_init 21 = .ok (.bipush 64, 2) := by decide +kernel
theorem dX11_init_23 : decode cX11_init 23 = .ok (.newarray .int, 2) := by decide +kernel
theorem dX11_init_25 : decode cX11_init 25 = .ok (.putfield 17, 3) := by decide +kernel
theorem dX11_init_28 : decode cX11_init 28 = .ok (.aload_n 0, 1) := by decide +kernel
theorem dX11_init_29 : decode cX11_init 29 = .ok (.bipush 16, 2) := by decide +kernel
theorem dX11_init_31 : decode cX11_init 31 = .ok (.newarray .int, 2) := by decide +kernel
theorem dX11_init_33 : decode cX11_init 33 = .ok (.putfield 20, 3) := by decide +kernel
theorem dX11_init_36 : decode cX11_init 36 = .ok (.aload_n 0, 1) := by decide +kernel
theorem dX11_init_37 : decode cX11_init 37 = .ok (.bipush 16, 2) := by decide +kernel
theorem dX11_init_39 : decode cX11_init 39 = .ok (.newarray .int, 2) := by decide +kernel
theorem dX11_init_41 : decode cX11_init 41 = .ok (.putfield 23, 3) := by decide +kernel
theorem dX11_init_44 : decode cX11_init 44 = .ok (.aload_n 0, 1) := by decide +kernel
theorem dX11_init_45 : decode cX11_init 45 = .ok (.bipush 16, 2) := by decide +kernel
theorem dX11_init_47 : decode cX11_init 47 = .ok (.newarray .int, 2) := by decide +kernel
theorem dX11_init_49 : decode cX11_init 49 = .ok (.putfield 26, 3) := by decide +kernel
theorem dX11_init_52 : decode cX11_init 52 = .ok (.aload_n 0, 1) := by decide +kernel
theorem dX11_init_53 : decode cX11_init 53 = .ok (.bipush 16, 2) := by decide +kernel
theorem dX11_init_55 : decode cX11_init 55 = .ok (.newarray .int, 2) := by decide +kernel
theorem dX11_init_57 : decode cX11_init 57 = .ok (.putfield 29, 3) := by decide +kernel
theorem dX11_init_60 : decode cX11_init 60 = .ok (.aload_n 0, 1) := by decide +kernel
theorem dX11_init_61 : decode cX11_init 61 = .ok (.sipush 250, 3) := by decide +kernel
theorem dX11_init_64 : decode cX11_init 64 = .ok (.newarray .int, 2) := by decide +kernel
theorem dX11_init_66 : decode cX11_init 66 = .ok (.putfield 32, 3) := by decide +kernel
theorem dX11_init_69 : decode cX11_init 69 = .ok (.aload_n 0, 1) := by decide +kernel
theorem dX11_init_70 : decode cX11_init 70 = .ok (.bipush 8, 2) := by decide +kernel
theorem dX11_init_72 : decode cX11_init 72 = .ok (.newarray .int, 2) := by decide +kernel
theorem dX11_init_74 : decode cX11_init 74 = .ok (.putfield 35, 3) := by decide +kernel
theorem dX11_init_77 : decode cX11_init 77 = .ok (.aload_n 0, 1) := by decide +kernel
theorem dX11_init_78 : decode cX11_init 78 = .ok (.bipush 8, 2) := by decide +kernel
theorem dX11_init_80 : decode cX11_init 80 = .ok (.newarray .int, 2) := by decide +kernel
theorem dX11_init_82 : decode cX11_init 82 = .ok (.putfield 38, 3) := by decide +kernel
theorem dX11_init_85 : decode cX11_init 85 = .ok (.aload_n 0, 1) := by decide +kernel
theorem dX11_init_86 : decode cX11_init 86 = .ok (.sipush 320, 3) := by decide +kernel
theorem dX11_init_89 : decode cX11_init 89 = .ok (.newarray .long, 2) := by decide +kernel
theorem dX11_init_91 : decode cX11_init 91 = .ok (.putfield 41, 3) := by decide +kernel
theorem dX11_init_94 : decode cX11_init 94 = .ok (.aload_n 0, 1) := by decide +kernel
theorem dX11_init_95 : decode cX11_init 95 = .ok (.bipush 7, 2) := by decide +kernel
theorem dX11_init_97 : decode cX11_init 97 = .ok (.newarray .int, 2) := by decide +kernel
theorem dX11_init_99 : decode cX11_init 99 = .ok (.putfield 45, 3) := by decide +kernel
theorem dX11_init_102 : decode cX11_init 102 = .ok (.aload_n 0, 1) := by decide +kernel
theorem dX11_init_103 : decode cX11_init 103 = .ok (.sipush 203, 3) := by decide +kernel
theorem dX11_init_106 : decode cX11_init 106 = .ok (.newarray .int, 2) := by decide +kernel
theorem dX11_init_108 : decode cX11_init 108 = .ok (.putfield 48, 3) := by decide +kernel
theorem dX11_init_111 : decode cX11_init 111 = .ok (.aload_n 0, 1) := by decide +kernel
theorem dX11_init_112 : decode cX11_init 112 = .ok (.sipush 203, 3) := by decide +kernel
theorem dX11_init_115 : decode cX11_init 115 = .ok (.newarray .int, 2) := by decide +kernel
theorem dX11_init_117 : decode cX11_init 117 = .ok (.putfield 51, 3) := by decide +kernel
theorem dX11_init_120 : decode cX11_init 120 = .ok (.aload_n 0, 1) := by decide +kernel
theorem dX11_init_121 : decode cX11_init 121 = .ok (.bipush 64, 2) := by decide +kernel
theorem dX11_init_123 : decode cX11_init 123 = .ok (.newarray .int, 2) := by decide +kernel
theorem dX11_init_125 : decode cX11_init 125 = .ok (.putfield 54, 3) := by decide +kernel
theorem dX11_init_128 : decode cX11_init 128 = .ok (.aload_n 0, 1) := by decide +kernel
theorem dX11_init_129 : decode cX11_init 129 = .ok (.bipush 8, 2) := by decide +kernel
theorem dX11_init_131 : decode cX11_init 131 = .ok (.newarray .int, 2) := by decide +kernel
theorem dX11_init_133 : decode cX11_init 133 = .ok (.putfield 57, 3) := by decide +kernel
theorem dX11_init_136 : decode cX11_init 136 = .ok (.aload_n 0, 1) := by decide +kernel
theorem dX11_init_137 : decode cX11_init 137 = .ok (.iconst 3, 1) := by decide +kernel
theorem dX11_init_138 : decode cX11_init 138 = .ok (.newarray .int, 2) := by decide +kernel
theorem dX11_init_140 : decode cX11_init 140 = .ok (.putfield 60, 3) := by decide +kernel
theorem dX11_init_143 : decode cX11_init 143 = .ok (.aload_n 0, 1) := by decide +kernel
theorem dX11_init_144 : decode cX11_init 144 = .ok (.iconst 1, 1) := by decide +kernel
theorem dX11_init_145 : decode cX11_init 145 = .ok (.putfield 63, 3) := by decide +kernel
theorem dX11_init_148 : decode cX11_init 148 = .ok (.iconst 0, 1) := by decide +kernel
theorem dX11_init_149 : decode cX11_init 149 = .ok (.istore_n 1, 1) := by decide +kernel
theorem dX11_init_150 : decode cX11_init 150 = .ok (.iload_n 1, 1) := by decide +kernel
theorem dX11_init_151 : decode cX11_init 151 = .ok (.bipush 8, 2) := by decide +kernel
theorem dX11_init_153 : decode cX11_init 153 = .ok (.if_icmp .ge 16, 3) := by decide +kernel
theorem dX11_init_156 : decode cX11_init 156 = .ok (.aload_n 0, 1) := by decide +kernel
theorem dX11_init_157 : decode cX11_init 157 = .ok (.getfield 35, 3) := by decide +kernel
theorem dX11_init_160 : decode cX11_init 160 = .ok (.iload_n 1, 1) := by decide +kernel
theorem dX11_init_161 : decode cX11_init 161 = .ok (.iconst (-1), 1) := by decide +kernel
theorem dX11_init_162 : decode cX11_init 162 = .ok (.iastore, 1) := by decide +kernel
theorem dX11_init_163 : decode cX11_init 163 = .ok (.iinc 1 1, 3) := by decide +kernel
theorem dX11_init_166 : decode cX11_init 166 = .ok (.goto (-16), 3) := by decide +kernel
theorem dX11_init_169 : decode cX11_init 169 = .ok (.return_, 1) := by decide +kernel
def kb_L : List Jvm.Cond := [(Jvm.Cond.initialized "NextToItsDebtorLaw"),
  (Jvm.Cond.initialized "NextToItsDebtor"),
  (Jvm.Cond.initialized "NextToItsDebtor$Garden"),
  (Jvm.Cond.initialized "NextToItsDebtor$Debts"),
  (Jvm.Cond.initialized "NextToItsDebtor$Seed"),
  (Jvm.Cond.initialized "NextToItsDebtor$Reader"),
  (Jvm.Cond.initialized "NextToItsDebtor$Tape"),
  (Jvm.Cond.initialized "NextToItsDebtor$Ways"),
  (Jvm.Cond.initialized "NextToItsDebtor$Ring"),
  (Jvm.Cond.initialized "NextToItsDebtor$Cover"),
  (Jvm.Cond.initialized "NextToItsDebtor$Shelf"),
  (Jvm.Cond.initialized "NextToItsDebtorModel"),
  (Jvm.Cond.initialized "NextToItsDebtor$Cells"),
  (Jvm.Cond.classLink "NextToItsDebtorLaw" (7 : Nat) "NextToItsDebtor"),
  (Jvm.Cond.instantiable "NextToItsDebtor" (11 : Nat)),
  (Jvm.Cond.classLink "NextToItsDebtor" (7 : Nat) "NextToItsDebtor$Garden"),
  (Jvm.Cond.instantiable "NextToItsDebtor$Garden" (7 : Nat)),
  (Jvm.Cond.classLink "NextToItsDebtor$Garden" (23 : Nat) "NextToItsDebtor$Debts"),
  (Jvm.Cond.instantiable "NextToItsDebtor$Debts" (1 : Nat)),
  (Jvm.Cond.arrayClass Jvm.ClassFile.FieldType.int),
  (Jvm.Cond.classLink "NextToItsDebtor$Garden" (33 : Nat) "NextToItsDebtor$Seed"),
  (Jvm.Cond.instantiable "NextToItsDebtor$Seed" (4 : Nat)),
  (Jvm.Cond.classLink "NextToItsDebtor" (26 : Nat) "NextToItsDebtor$Shelf"),
  (Jvm.Cond.classLink "NextToItsDebtor" (32 : Nat) "NextToItsDebtor$Reader"),
  (Jvm.Cond.instantiable "NextToItsDebtor$Reader" (4 : Nat)),
  (Jvm.Cond.classLink "NextToItsDebtor$Reader" (9 : Nat) "NextToItsDebtor$Tape"),
  (Jvm.Cond.instantiable "NextToItsDebtor$Tape" (2 : Nat)),
  (Jvm.Cond.classLink "NextToItsDebtor" (39 : Nat) "NextToItsDebtor$Ways"),
  (Jvm.Cond.instantiable "NextToItsDebtor$Ways" (1 : Nat)),
  (Jvm.Cond.arrayClass Jvm.ClassFile.FieldType.long),
  (Jvm.Cond.classLink "NextToItsDebtor" (46 : Nat) "NextToItsDebtor$Ring"),
  (Jvm.Cond.instantiable "NextToItsDebtor$Ring" (2 : Nat)),
  (Jvm.Cond.classLink "NextToItsDebtor" (53 : Nat) "NextToItsDebtor$Cover"),
  (Jvm.Cond.instantiable "NextToItsDebtor$Cover" (1 : Nat)),
  (Jvm.Cond.instantiable "NextToItsDebtor$Shelf" (3 : Nat)),
  (Jvm.Cond.arrayClass Jvm.ClassFile.FieldType.byte),
  (Jvm.Cond.classLink "NextToItsDebtorLaw" (10 : Nat) "NextToItsDebtorModel"),
  (Jvm.Cond.instantiable "NextToItsDebtorModel" (26 : Nat)),
  (Jvm.Cond.arrayClass Jvm.ClassFile.FieldType.boolean),
  (Jvm.Cond.methodLink "NextToItsDebtorLaw" (9 : Nat) ({ cls := "NextToItsDebtor", name := "<init>", desc := "()V" } : Jvm.MethodName)),
  (Jvm.Cond.instanceMethod ({ cls := "NextToItsDebtor", name := "<init>", desc := "()V" } : Jvm.MethodName)),
  (Jvm.Cond.code ({ cls := "NextToItsDebtor", name := "<init>", desc := "()V" } : Jvm.MethodName) prog_1_method_1_code (2 : Nat) (Option.none : Option Jvm.ClassFile.FieldType)),
  (Jvm.Cond.methodLink "NextToItsDebtor" (1 : Nat) ({ cls := "java/lang/Object", name := "<init>", desc := "()V" } : Jvm.MethodName)),
  (Jvm.Cond.instanceMethod ({ cls := "java/lang/Object", name := "<init>", desc := "()V" } : Jvm.MethodName)),
  (Jvm.Cond.code ({ cls := "java/lang/Object", name := "<init>", desc := "()V" } : Jvm.MethodName) object_method_1_code (1 : Nat) (Option.none : Option Jvm.ClassFile.FieldType)),
  (Jvm.Cond.instanceMethod ({ cls := "NextToItsDebtor$Garden", name := "<init>", desc := "()V" } : Jvm.MethodName)),
  (Jvm.Cond.code ({ cls := "NextToItsDebtor$Garden", name := "<init>", desc := "()V" } : Jvm.MethodName) prog_5_method_1_code (2 : Nat) (Option.none : Option Jvm.ClassFile.FieldType)),
  (Jvm.Cond.methodLink "NextToItsDebtor$Garden" (3 : Nat) ({ cls := "java/lang/Object", name := "<init>", desc := "()V" } : Jvm.MethodName)),
  (Jvm.Cond.instanceMethod ({ cls := "NextToItsDebtor$Debts", name := "<init>", desc := "()V" } : Jvm.MethodName)),
  (Jvm.Cond.code ({ cls := "NextToItsDebtor$Debts", name := "<init>", desc := "()V" } : Jvm.MethodName) prog_4_method_1_code (1 : Nat) (Option.none : Option Jvm.ClassFile.FieldType)),
  (Jvm.Cond.methodLink "NextToItsDebtor$Debts" (5 : Nat) ({ cls := "java/lang/Object", name := "<init>", desc := "()V" } : Jvm.MethodName)),
  (Jvm.Cond.instanceMethod ({ cls := "NextToItsDebtor$Seed", name := "<init>", desc := "()V" } : Jvm.MethodName)),
  (Jvm.Cond.code ({ cls := "NextToItsDebtor$Seed", name := "<init>", desc := "()V" } : Jvm.MethodName) prog_8_method_1_code (1 : Nat) (Option.none : Option Jvm.ClassFile.FieldType)),
  (Jvm.Cond.methodLink "NextToItsDebtor$Seed" (3 : Nat) ({ cls := "java/lang/Object", name := "<init>", desc := "()V" } : Jvm.MethodName)),
  (Jvm.Cond.instanceMethod ({ cls := "NextToItsDebtor$Reader", name := "<init>", desc := "()V" } : Jvm.MethodName)),
  (Jvm.Cond.code ({ cls := "NextToItsDebtor$Reader", name := "<init>", desc := "()V" } : Jvm.MethodName) prog_6_method_1_code (1 : Nat) (Option.none : Option Jvm.ClassFile.FieldType)),
  (Jvm.Cond.methodLink "NextToItsDebtor$Reader" (3 : Nat) ({ cls := "java/lang/Object", name := "<init>", desc := "()V" } : Jvm.MethodName)),
  (Jvm.Cond.instanceMethod ({ cls := "NextToItsDebtor$Tape", name := "<init>", desc := "()V" } : Jvm.MethodName)),
  (Jvm.Cond.code ({ cls := "NextToItsDebtor$Tape", name := "<init>", desc := "()V" } : Jvm.MethodName) prog_10_method_1_code (1 : Nat) (Option.none : Option Jvm.ClassFile.FieldType)),
  (Jvm.Cond.methodLink "NextToItsDebtor$Tape" (3 : Nat) ({ cls := "java/lang/Object", name := "<init>", desc := "()V" } : Jvm.MethodName)),
  (Jvm.Cond.instanceMethod ({ cls := "NextToItsDebtor$Ways", name := "<init>", desc := "()V" } : Jvm.MethodName)),
  (Jvm.Cond.code ({ cls := "NextToItsDebtor$Ways", name := "<init>", desc := "()V" } : Jvm.MethodName) prog_11_method_1_code (1 : Nat) (Option.none : Option Jvm.ClassFile.FieldType)),
  (Jvm.Cond.methodLink "NextToItsDebtor$Ways" (3 : Nat) ({ cls := "java/lang/Object", name := "<init>", desc := "()V" } : Jvm.MethodName)),
  (Jvm.Cond.instanceMethod ({ cls := "NextToItsDebtor$Ring", name := "<init>", desc := "()V" } : Jvm.MethodName)),
  (Jvm.Cond.code ({ cls := "NextToItsDebtor$Ring", name := "<init>", desc := "()V" } : Jvm.MethodName) prog_7_method_1_code (1 : Nat) (Option.none : Option Jvm.ClassFile.FieldType)),
  (Jvm.Cond.methodLink "NextToItsDebtor$Ring" (3 : Nat) ({ cls := "java/lang/Object", name := "<init>", desc := "()V" } : Jvm.MethodName)),
  (Jvm.Cond.instanceMethod ({ cls := "NextToItsDebtor$Cover", name := "<init>", desc := "()V" } : Jvm.MethodName)),
  (Jvm.Cond.code ({ cls := "NextToItsDebtor$Cover", name := "<init>", desc := "()V" } : Jvm.MethodName) prog_3_method_1_code (1 : Nat) (Option.none : Option Jvm.ClassFile.FieldType)),
  (Jvm.Cond.methodLink "NextToItsDebtor$Cover" (5 : Nat) ({ cls := "java/lang/Object", name := "<init>", desc := "()V" } : Jvm.MethodName)),
  (Jvm.Cond.instanceMethod ({ cls := "NextToItsDebtor$Shelf", name := "<init>", desc := "()V" } : Jvm.MethodName)),
  (Jvm.Cond.code ({ cls := "NextToItsDebtor$Shelf", name := "<init>", desc := "()V" } : Jvm.MethodName) prog_9_method_1_code (1 : Nat) (Option.none : Option Jvm.ClassFile.FieldType)),
  (Jvm.Cond.methodLink "NextToItsDebtor$Shelf" (3 : Nat) ({ cls := "java/lang/Object", name := "<init>", desc := "()V" } : Jvm.MethodName)),
  (Jvm.Cond.methodLink "NextToItsDebtorLaw" (12 : Nat) ({ cls := "NextToItsDebtorModel", name := "<init>", desc := "()V" } : Jvm.MethodName)),
  (Jvm.Cond.instanceMethod ({ cls := "NextToItsDebtorModel", name := "<init>", desc := "()V" } : Jvm.MethodName)),
  (Jvm.Cond.code ({ cls := "NextToItsDebtorModel", name := "<init>", desc := "()V" } : Jvm.MethodName) prog_13_method_1_code (2 : Nat) (Option.none : Option Jvm.ClassFile.FieldType)),
  (Jvm.Cond.methodLink "NextToItsDebtorModel" (1 : Nat) ({ cls := "java/lang/Object", name := "<init>", desc := "()V" } : Jvm.MethodName)),
  (Jvm.Cond.fieldLink "NextToItsDebtor$Cover" (13 : Nat) "NextToItsDebtor$Cover" "cells" "[I"),
  (Jvm.Cond.fieldLink "NextToItsDebtor$Debts" (13 : Nat) "NextToItsDebtor$Debts" "coins" "[I"),
  (Jvm.Cond.fieldLink "NextToItsDebtor$Garden" (9 : Nat) "NextToItsDebtor$Garden" "walls" "J"),
  (Jvm.Cond.fieldLink "NextToItsDebtor$Garden" (15 : Nat) "NextToItsDebtor$Garden" "people" "I"),
  (Jvm.Cond.fieldLink "NextToItsDebtor$Garden" (19 : Nat) "NextToItsDebtor$Garden" "places" "[I"),
  (Jvm.Cond.fieldLink "NextToItsDebtor$Garden" (26 : Nat) "NextToItsDebtor$Garden" "debts" "LNextToItsDebtor$Debts;"),
  (Jvm.Cond.fieldLink "NextToItsDebtor$Garden" (30 : Nat) "NextToItsDebtor$Garden" "sown" "I"),
  (Jvm.Cond.fieldLink "NextToItsDebtor$Garden" (35 : Nat) "NextToItsDebtor$Garden" "seeds" "[LNextToItsDebtor$Seed;"),
  (Jvm.Cond.fieldLink "NextToItsDebtor$Garden" (39 : Nat) "NextToItsDebtor$Garden" "seedness" "I"),
  (Jvm.Cond.fieldLink "NextToItsDebtor$Reader" (12 : Nat) "NextToItsDebtor$Reader" "tape" "LNextToItsDebtor$Tape;"),
  (Jvm.Cond.fieldLink "NextToItsDebtor$Reader" (18 : Nat) "NextToItsDebtor$Reader" "token" "I"),
  (Jvm.Cond.fieldLink "NextToItsDebtor$Reader" (22 : Nat) "NextToItsDebtor$Reader" "start" "I"),
  (Jvm.Cond.fieldLink "NextToItsDebtor$Reader" (25 : Nat) "NextToItsDebtor$Reader" "after" "I"),
  (Jvm.Cond.fieldLink "NextToItsDebtor$Ring" (11 : Nat) "NextToItsDebtor$Ring" "people" "[I"),
  (Jvm.Cond.fieldLink "NextToItsDebtor$Ring" (17 : Nat) "NextToItsDebtor$Ring" "creditors" "[I"),
  (Jvm.Cond.fieldLink "NextToItsDebtor$Seed" (11 : Nat) "NextToItsDebtor$Seed" "kind" "I"),
  (Jvm.Cond.fieldLink "NextToItsDebtor$Seed" (15 : Nat) "NextToItsDebtor$Seed" "a" "I"),
  (Jvm.Cond.fieldLink "NextToItsDebtor$Seed" (18 : Nat) "NextToItsDebtor$Seed" "cell" "I"),
  (Jvm.Cond.fieldLink "NextToItsDebtor$Seed" (21 : Nat) "NextToItsDebtor$Seed" "creditor" "I"),
  (Jvm.Cond.fieldLink "NextToItsDebtor$Shelf" (9 : Nat) "NextToItsDebtor$Shelf" "what" "I"),
  (Jvm.Cond.fieldLink "NextToItsDebtor$Shelf" (15 : Nat) "NextToItsDebtor$Shelf" "size" "I"),
  (Jvm.Cond.fieldLink "NextToItsDebtor$Shelf" (18 : Nat) "NextToItsDebtor$Shelf" "elements" "[J"),
  (Jvm.Cond.fieldLink "NextToItsDebtor$Tape" (11 : Nat) "NextToItsDebtor$Tape" "letters" "[I"),
  (Jvm.Cond.fieldLink "NextToItsDebtor$Tape" (15 : Nat) "NextToItsDebtor$Tape" "size" "I"),
  (Jvm.Cond.fieldLink "NextToItsDebtor$Ways" (11 : Nat) "NextToItsDebtor$Ways" "layers" "[J"),
  (Jvm.Cond.fieldLink "NextToItsDebtor" (10 : Nat) "NextToItsDebtor" "now" "LNextToItsDebtor$Garden;"),
  (Jvm.Cond.fieldLink "NextToItsDebtor" (16 : Nat) "NextToItsDebtor" "kept" "LNextToItsDebtor$Garden;"),
  (Jvm.Cond.fieldLink "NextToItsDebtor" (19 : Nat) "NextToItsDebtor" "trial" "LNextToItsDebtor$Garden;"),
  (Jvm.Cond.fieldLink "NextToItsDebtor" (22 : Nat) "NextToItsDebtor" "isKept" "Z"),
  (Jvm.Cond.fieldLink "NextToItsDebtor" (28 : Nat) "NextToItsDebtor" "shelves" "[LNextToItsDebtor$Shelf;"),
  (Jvm.Cond.fieldLink "NextToItsDebtor" (35 : Nat) "NextToItsDebtor" "reader" "LNextToItsDebtor$Reader;"),
  (Jvm.Cond.fieldLink "NextToItsDebtor" (42 : Nat) "NextToItsDebtor" "ways" "LNextToItsDebtor$Ways;"),
  (Jvm.Cond.fieldLink "NextToItsDebtor" (49 : Nat) "NextToItsDebtor" "round" "LNextToItsDebtor$Ring;"),
  (Jvm.Cond.fieldLink "NextToItsDebtor" (56 : Nat) "NextToItsDebtor" "cover" "LNextToItsDebtor$Cover;"),
  (Jvm.Cond.fieldLink "NextToItsDebtor" (60 : Nat) "NextToItsDebtor" "refusals" "[I"),
  (Jvm.Cond.fieldLink "NextToItsDebtor" (64 : Nat) "NextToItsDebtor" "showing" "[I"),
  (Jvm.Cond.fieldLink "NextToItsDebtorModel" (7 : Nat) "NextToItsDebtorModel" "wall" "[Z"),
  (Jvm.Cond.fieldLink "NextToItsDebtorModel" (13 : Nat) "NextToItsDebtorModel" "on" "[I"),
  (Jvm.Cond.fieldLink "NextToItsDebtorModel" (17 : Nat) "NextToItsDebtorModel" "debt" "[I"),
  (Jvm.Cond.fieldLink "NextToItsDebtorModel" (20 : Nat) "NextToItsDebtorModel" "kind" "[I"),
  (Jvm.Cond.fieldLink "NextToItsDebtorModel" (23 : Nat) "NextToItsDebtorModel" "own" "[I"),
  (Jvm.Cond.fieldLink "NextToItsDebtorModel" (26 : Nat) "NextToItsDebtorModel" "cell" "[I"),
  (Jvm.Cond.fieldLink "NextToItsDebtorModel" (29 : Nat) "NextToItsDebtorModel" "creditor" "[I"),
  (Jvm.Cond.fieldLink "NextToItsDebtorModel" (32 : Nat) "NextToItsDebtorModel" "tape" "[I"),
  (Jvm.Cond.fieldLink "NextToItsDebtorModel" (35 : Nat) "NextToItsDebtorModel" "holding" "[I"),
  (Jvm.Cond.fieldLink "NextToItsDebtorModel" (38 : Nat) "NextToItsDebtorModel" "rowLength" "[I"),
  (Jvm.Cond.fieldLink "NextToItsDebtorModel" (41 : Nat) "NextToItsDebtorModel" "rowOf" "[J"),
  (Jvm.Cond.fieldLink "NextToItsDebtorModel" (45 : Nat) "NextToItsDebtorModel" "refusals" "[I"),
  (Jvm.Cond.fieldLink "NextToItsDebtorModel" (48 : Nat) "NextToItsDebtorModel" "old" "[I"),
  (Jvm.Cond.fieldLink "NextToItsDebtorModel" (51 : Nat) "NextToItsDebtorModel" "ahead" "[I"),
  (Jvm.Cond.fieldLink "NextToItsDebtorModel" (54 : Nat) "NextToItsDebtorModel" "steps" "[I"),
  (Jvm.Cond.fieldLink "NextToItsDebtorModel" (57 : Nat) "NextToItsDebtorModel" "ring" "[I"),
  (Jvm.Cond.fieldLink "NextToItsDebtorModel" (60 : Nat) "NextToItsDebtorModel" "told" "[I"),
  (Jvm.Cond.fieldLink "NextToItsDebtorModel" (63 : Nat) "NextToItsDebtorModel" "seedness" "I")]
def kb_N : List Jvm.Cond := [(Jvm.Cond.methodLinkNest "NextToItsDebtor" (9 : Nat) ({ cls := "NextToItsDebtor$Garden", name := "<init>", desc := "()V" } : Jvm.MethodName) "NextToItsDebtor"),
  (Jvm.Cond.methodLinkNest "NextToItsDebtor$Garden" (25 : Nat) ({ cls := "NextToItsDebtor$Debts", name := "<init>", desc := "()V" } : Jvm.MethodName) "NextToItsDebtor"),
  (Jvm.Cond.methodLinkNest "NextToItsDebtor$Garden" (42 : Nat) ({ cls := "NextToItsDebtor$Seed", name := "<init>", desc := "()V" } : Jvm.MethodName) "NextToItsDebtor"),
  (Jvm.Cond.methodLinkNest "NextToItsDebtor" (34 : Nat) ({ cls := "NextToItsDebtor$Reader", name := "<init>", desc := "()V" } : Jvm.MethodName) "NextToItsDebtor"),
  (Jvm.Cond.methodLinkNest "NextToItsDebtor$Reader" (11 : Nat) ({ cls := "NextToItsDebtor$Tape", name := "<init>", desc := "()V" } : Jvm.MethodName) "NextToItsDebtor"),
  (Jvm.Cond.methodLinkNest "NextToItsDebtor" (41 : Nat) ({ cls := "NextToItsDebtor$Ways", name := "<init>", desc := "()V" } : Jvm.MethodName) "NextToItsDebtor"),
  (Jvm.Cond.methodLinkNest "NextToItsDebtor" (48 : Nat) ({ cls := "NextToItsDebtor$Ring", name := "<init>", desc := "()V" } : Jvm.MethodName) "NextToItsDebtor"),
  (Jvm.Cond.methodLinkNest "NextToItsDebtor" (55 : Nat) ({ cls := "NextToItsDebtor$Cover", name := "<init>", desc := "()V" } : Jvm.MethodName) "NextToItsDebtor"),
  (Jvm.Cond.methodLinkNest "NextToItsDebtor" (67 : Nat) ({ cls := "NextToItsDebtor$Shelf", name := "<init>", desc := "()V" } : Jvm.MethodName) "NextToItsDebtor")]
set_option maxRecDepth 100000 in
theorem kb_L_in : ∀ w ∈ kb_L, w ∈ lw_tbl := ax_inW [129, 130, 131, 132, 133, 134, 135, 136, 137, 138, 139, 140, 143, 150, 151, 158, 159, 164, 165, 174, 175, 177, 234, 236, 237, 242, 243, 271, 272, 281, 282, 283, 296, 297, 307, 707, 1099, 1100, 1184, 152, 153, 154, 155, 156, 157, 161, 162, 163, 167, 168, 169, 179, 180, 181, 239, 240, 241, 245, 246, 247, 274, 275, 276, 285, 286, 287, 299, 300, 301, 309, 310, 311, 1101, 1102, 1103, 1104, 302, 170, 201, 203, 206, 209, 212, 215, 217, 257, 259, 260, 261, 288, 290, 182, 185, 187, 189, 312, 314, 316, 248, 249, 277, 325, 326, 327, 328, 329, 330, 331, 332, 333, 334, 335, 1105, 1107, 1108, 1110, 1111, 1112, 1113, 1116, 1121, 1122, 1123, 1124, 1126, 1127, 1128, 1129, 1130, 1114] (by decide +kernel)
set_option maxRecDepth 100000 in
theorem kb_N_in : ∀ w ∈ kb_N, w ∈ lw_tbl := ax_inW [160, 166, 178, 238, 244, 273, 284, 298, 308] (by decide +kernel)
theorem kb_L_good : kb_L.all goodWord = true := by decide +kernel
theorem kb_ao6 : Cond.arrayOver (.object RX6) ∈ lw_tbl := List.mem_of_getElem? (i := 176) (by decide +kernel)
theorem kb_ao7 : Cond.arrayOver (.object RX7) ∈ lw_tbl := List.mem_of_getElem? (i := 235) (by decide +kernel)
def kb_T (c0 : Jvm.Cond) : List Jvm.Cond := c0 :: (kb_L ++ ax_W)
theorem kb_h {args : Array Value} {s : State} {c0 w : Jvm.Cond} (hts : ∀ w ∈ kb_T c0, w.before args s = true) (i : Nat) (h : kb_L[i]? = some w) : w.before args s = true := hts w (List.mem_cons_of_mem _ (List.mem_append_left _ (List.mem_of_getElem? h)))
theorem kb_u {c0 : Jvm.Cond} (k : Nat) (hk : k ∈ ax_obj) : ∀ w ∈ u_ws (ax_ct k).2.1 (ax_ct k).2.2.1 (ax_ct k).2.2.2, w ∈ kb_T c0 := fun w hw => List.mem_cons_of_mem _ (List.mem_append_right _ (ax_obj_in k hk w hw))
theorem kb_g {Ts : List Jvm.Cond} {c1 : Jvm.Cond} (hT : ∀ w ∈ kb_L ++ ax_W, w ∈ Ts) (i : Nat) (h : kb_L[i]? = some c1) : GoodIn Ts (kb_T c1) := by
  have hm : ∀ w ∈ kb_T c1, w ∈ kb_L ++ ax_W := fun w hw => by
    rcases List.mem_cons.mp hw with e | e
    · rw [e]; exact List.mem_append_left _ (List.mem_of_getElem? h)
    · exact e
  refine fun w hw => ⟨hT w (hm w hw), good_of_word ?_⟩
  rcases List.mem_append.mp (hm w hw) with e | e
  · exact List.all_eq_true.mp kb_L_good w e
  · exact List.all_eq_true.mp ax_W_good w e
/-- what holds of the tables where something is made -/
def kb_K (D : va_G) (Ca : Nat → ClassId) (U : State) : Prop := va_K D vwCl (ax_tys Ca) U ∧ va_AO RX6 U ∧ va_AO RX7 U ∧ ∀ w ∈ kb_N, va_Nw w U
theorem kb_N_form : ∀ w ∈ kb_N, ∃ a i x h, w = .methodLinkNest a i x h := by
  intro w hw
  simp only [kb_N, List.mem_cons, List.not_mem_nil, or_false] at hw
  rcases hw with rfl | rfl | rfl | rfl | rfl | rfl | rfl | rfl | rfl <;> exact ⟨_, _, _, _, rfl⟩
theorem kb_K.go {D : va_G} {Ca : Nat → ClassId} {U U2 : State} (hW : U.WarmedH U2.vm) (h : kb_K D Ca U) : kb_K D Ca U2 := by
  obtain ⟨h1, h2, h3, h4⟩ := h
  refine ⟨va_K.moved hW.alike h1, va_AO.moved hW.alike h2, va_AO.moved hW.alike h3, fun w hw => ?_⟩
  have h9 := h4 w hw
  obtain ⟨a, i, x, h, rfl⟩ := kb_N_form w hw
  exact va_Nw.warmM hW h9
def kb_A (h0 sz : Nat) : Nat → Prop := fun q => q = h0 ∨ sz ≤ q
def kb_Pc (D : va_G) (Ca : Nat → ClassId) (h0 : Nat) (As : List Value) (sz : Nat) (e0 : va_E) : Array Value → State → Prop := va_Pc (.ref h0 :: As) (fun U => U.heap.size = sz ∧ va_P D vwCl [(h0, e0)] U.heap ∧ kb_K D Ca U)
def kb_Qc {S : Type} (D : va_G) (w : S → va_W) (good : S → Prop) (A : Nat → Prop) : Array Value → State → Outcome → State → Prop := va_Qv good (fun u t => va_P D vwCl (w u) t.heap ∧ va_D A (w u)) A
theorem kb_D1 {A : Nat → Prop} {a : Nat} {e : va_E} (h : A a) : va_D A [(a, e)] := by
  refine ⟨fun i j p q hi hj _ => ?_, fun k q hk => ?_⟩
  · have h1 := (List.getElem?_eq_some_iff.mp hi).1
    have h2 := (List.getElem?_eq_some_iff.mp hj).1
    simp only [List.length_cons, List.length_nil] at h1 h2
    omega
  · have h1 := (List.getElem?_eq_some_iff.mp hk).1
    simp only [List.length_cons, List.length_nil] at h1
    obtain rfl : k = 0 := by omega
    cases hk
    exact h
theorem kb_last {α : Type} {Y Z : List α} {x : α} : (Y ++ x :: Z)[Y.length]? = some x := by simp
theorem kb_join {A0 : Nat → Prop} {D : va_G} {Y w1 : va_W} {q : Nat} {e : va_E} {H H1 : Heap} (hP : va_P D vwCl (Y ++ [(q, e)]) H) (hD : va_D A0 (Y ++ [(q, e)])) (hk : ∀ x : Nat, x < H.size → ¬ kb_A q H.size x → H1[x]? = H[x]?) (hF : ∀ x, kb_A q H.size x → A0 x) (hP1 : va_P D vwCl w1 H1) (hD1 : va_D (kb_A q H.size) w1) : va_P D vwCl (Y ++ w1) H1 ∧ va_D A0 (Y ++ w1) := by
  have sY : ∀ (k : Nat) (x : Nat × va_E), Y[k]? = some x → (Y ++ [(q, e)])[k]? = some x := fun k x h => by
    rw [List.getElem?_append_left (List.getElem?_eq_some_iff.mp h).1]; exact h
  have apart : ∀ (k : Nat) (x : Nat × va_E), Y[k]? = some x → x.1 < H.size ∧ ¬ kb_A q H.size x.1 := by
    intro k x hx
    have hl := (hP k x (sY k x hx)).lt
    refine ⟨hl, fun h => ?_⟩
    rcases h with h | h
    · have := hD.1 k Y.length x (q, e) (sY k x hx) kb_last h
      have := (List.getElem?_eq_some_iff.mp hx).1
      omega
    · omega
  refine ⟨va_P.app (fun k x hx => (hP k x (sY k x hx)).kept (hk x.1 (apart k x hx).1 (apart k x hx).2)) hP1, va_D.app ⟨fun i j a b hi hj hab => hD.1 i j a b (sY i a hi) (sY j b hj) hab, fun k x hx => hD.2 k x (sY k x hx)⟩ (hD1.weaken (fun k x _ h => hF x.1 h)) (fun i j x y hx hy hxy => ?_)⟩
  exact (apart i x hx).2 (by rw [hxy]; exact hD1.2 j y hy)
section KB
variable {p : Program} {l : Launch} {e : Env} {R : Room} {s : State} {m : MethodId} {args : Array Value} {below : List Frame} {meth : Method} {c : Code} {H : Heap} {locs : List Loc} {cells slots : Nat} {Q : State → Prop}
variable {cc : ByteArray} {pc nL : Nat} {ls : Array Slot} {D : va_G} {Ca : Nat → ClassId} {A : Nat → Prop} {ws : va_W} {rest : List Value} {Ts : List Jvm.Cond} {own : String}
theorem kb_pre {q : Nat} {As : List Value} {e0 : va_E} {Y : va_W} (hK : kb_K D Ca s) (hP : va_P D vwCl (Y ++ [(q, e0)]) H) : PreS s H (kb_Pc D Ca q As H.size e0) (.ref q :: As) := ⟨fun v U g mk x => ⟨x.1, x.2.1, x.2.2.1, kb_K.go (U := U) (U2 := U.calling g mk v) (State.WarmedH.refl U) x.2.2.2⟩, fun U hU hW => ⟨rfl, by rw [hU], by rw [hU]; intro k x hk; exact (by
    have h1 := (List.getElem?_eq_some_iff.mp hk).1
    simp only [List.length_cons, List.length_nil] at h1
    obtain rfl : k = 0 := by omega
    cases hk
    exact hP Y.length _ kb_last), kb_K.go hW hK⟩⟩
/-- a constructor of a nest mate -/
theorem kb_callN {S : Type} {w : S → va_W} {good : S → Prop} {y : MethodName} {bytes : ByteArray} {maxL mc ms n idx q : Nat} {rm : Room} {As : List Value} {e0 : va_E} {Y : va_W} {H0 : Heap} (hx : p.tables.exec = Jvm.exec) (hb : c.code = cc) (hml : c.maxLocals = nL) (hown : s.vm.findClass own = some m.cls) (hts : ∀ w ∈ Ts, w.before args s = true) (hT : ∀ w ∈ kb_L ++ ax_W, w ∈ Ts)
    (hM : Met l y (kb_T (.code y bytes maxL none)) rm (kb_Pc D Ca q As H.size e0) (kb_Qc D w good (kb_A q H.size)) mc ms (kb_A q H.size)) (ic ii ij iN : Nat) (h1 : kb_L[ic]? = some (.code y bytes maxL none)) (h2 : kb_L[ii]? = some (.initialized y.cls)) (h3 : kb_L[ij]? = some (.instanceMethod y)) (h4 : kb_N[iN]? = some (.methodLinkNest own idx y RX10)) (hrc : rm.cells = mc) (hrs : rm.slots = ms) (hy : y.name = "<init>")
    (hd : y.cls ≠ "java/lang/invoke/MethodHandle" ∧ y.cls ≠ "java/lang/invoke/VarHandle" ∧ (parseMethodDescriptor y.desc).map (fun d => d.parameters.length) = some n) (hR : rm.frames + 1 ≤ R.frames ∧ 8 + (maxL + 11) + rm.locals ≤ R.locals) (hn : As.length = n) (hls : ls.size = nL)
    (hK : kb_K D Ca s) (hP : va_P D vwCl (Y ++ [(q, e0)]) H) (hD : va_D A (Y ++ [(q, e0)])) (hS : va_S A H0 H locs) (hA : ∀ x, H0.size ≤ x → A x) {st : List Value} (hst : st = As.reverse ++ .ref q :: rest) (hroom : (rest.map fun v => v.category).sum ≤ 8) (hdg : decode cc pc = .ok (.invokespecial idx, 3)) (hf : cells + mc ≤ R.cells ∧ slots + ms ≤ R.slots)
    (kk : ∀ (u : S) (H1 : Heap) (locs1 : List Loc), good u → va_P D vwCl (Y ++ w u) H1 → va_D A (Y ++ w u) → va_S A H0 H1 locs1 → W p l e R s m args below meth c H1 locs1 (cells + mc) (slots + ms) Q (F0 m (pc + 3) ls rest)) : W p l e R s m args below meth c H locs cells slots Q (F0 m pc ls st) := by
  have hF : ∀ x, kb_A q H.size x → A x := fun x hx => by
    rcases hx with hx | hx
    · rw [hx]; exact hD.2 Y.length _ kb_last
    · exact hA x (Nat.le_trans hS.1 hx)
  refine va_callv (va_runIN (As := As) (rest := rest) (host := RX10) ⟨hx, hb, hml, hown, hts⟩ hM ⟨va_cnB n hts (kb_g hT ic h1) rfl hrc hrs (hK.2.2.2 _ (List.mem_of_getElem? h4)) (hts _ (hT _ (List.mem_append_left _ (List.mem_of_getElem? h2)))) hd hR, hy, hts _ (hT _ (List.mem_append_left _ (List.mem_of_getElem? h3)))⟩ (kb_pre hK hP) rfl hn hls hst (lv_room hroom) hdg hf) hS (fun x _ h => hF x h) hF (fun u t H1 locs1 ht hvm hw hB hz1 hk1 hS1 => ?_)
  obtain ⟨hP1, hD1⟩ := hB
  rw [ht] at hP1
  obtain ⟨j1, j2⟩ := kb_join hP hD hk1 hF hP1 hD1
  exact kk u H1 locs1 hw j1 j2 hS1
/-- a constructor by an ordinary link -/
theorem kb_callO {S : Type} {w : S → va_W} {good : S → Prop} {y : MethodName} {bytes : ByteArray} {maxL mc ms n idx q : Nat} {rm : Room} {As : List Value} {e0 : va_E} {Y : va_W} {H0 : Heap} (hx : p.tables.exec = Jvm.exec) (hb : c.code = cc) (hml : c.maxLocals = nL) (hown : s.vm.findClass own = some m.cls) (hts : ∀ w ∈ Ts, w.before args s = true) (hT : ∀ w ∈ kb_L ++ ax_W, w ∈ Ts)
    (hM : Met l y (kb_T (.code y bytes maxL none)) rm (kb_Pc D Ca q As H.size e0) (kb_Qc D w good (kb_A q H.size)) mc ms (kb_A q H.size)) (ic ii ij iN : Nat) (h1 : kb_L[ic]? = some (.code y bytes maxL none)) (h2 : kb_L[ii]? = some (.initialized y.cls)) (h3 : kb_L[ij]? = some (.instanceMethod y)) (h4 : kb_L[iN]? = some (.methodLink own idx y)) (hrc : rm.cells = mc) (hrs : rm.slots = ms) (hy : y.name = "<init>")
    (hd : y.cls ≠ "java/lang/invoke/MethodHandle" ∧ y.cls ≠ "java/lang/invoke/VarHandle" ∧ (parseMethodDescriptor y.desc).map (fun d => d.parameters.length) = some n) (hR : rm.frames + 1 ≤ R.frames ∧ 8 + (maxL + 11) + rm.locals ≤ R.locals) (hn : As.length = n) (hls : ls.size = nL)
    (hK : kb_K D Ca s) (hP : va_P D vwCl (Y ++ [(q, e0)]) H) (hD : va_D A (Y ++ [(q, e0)])) (hS : va_S A H0 H locs) (hA : ∀ x, H0.size ≤ x → A x) {st : List Value} (hst : st = As.reverse ++ .ref q :: rest) (hroom : (rest.map fun v => v.category).sum ≤ 8) (hdg : decode cc pc = .ok (.invokespecial idx, 3)) (hf : cells + mc ≤ R.cells ∧ slots + ms ≤ R.slots)
    (kk : ∀ (u : S) (H1 : Heap) (locs1 : List Loc), good u → va_P D vwCl (Y ++ w u) H1 → va_D A (Y ++ w u) → va_S A H0 H1 locs1 → W p l e R s m args below meth c H1 locs1 (cells + mc) (slots + ms) Q (F0 m (pc + 3) ls rest)) : W p l e R s m args below meth c H locs cells slots Q (F0 m pc ls st) := by
  have hF : ∀ x, kb_A q H.size x → A x := fun x hx => by
    rcases hx with hx | hx
    · rw [hx]; exact hD.2 Y.length _ kb_last
    · exact hA x (Nat.le_trans hS.1 hx)
  have hin : ∀ {w : Jvm.Cond} {i : Nat}, kb_L[i]? = some w → w.before args s = true := fun h => hts _ (hT _ (List.mem_append_left _ (List.mem_of_getElem? h)))
  refine va_callv (va_runI (As := As) (rest := rest) ⟨hx, hb, hml, hown, hts⟩ hM (cwI n hts (kb_g hT ic h1) rfl hrc hrs (hin h2) (hin h4) (hin h3) hy hd hR) (kb_pre hK hP) rfl hn hls hst (lv_room hroom) hdg hf) hS (fun x _ h => hF x h) hF (fun u t H1 locs1 ht hvm hw hB hz1 hk1 hS1 => ?_)
  obtain ⟨hP1, hD1⟩ := hB
  rw [ht] at hP1
  obtain ⟨j1, j2⟩ := kb_join hP hD hk1 hF hP1 hD1
  exact kk u H1 locs1 hw j1 j2 hS1
/-- new rows, of the class that is known -/
theorem kb_newI {H0 : Heap} {N' : Nat} {n : Int32} (hx : p.tables.exec = Jvm.exec) (hb : c.code = cc) (harr : (Cond.arrayClass .int).before args s = true) (hK : kb_K D Ca s) (hP : va_P D vwCl ws H) (hD : va_D A ws) (hS : va_S A H0 H locs) (hA : ∀ q, H0.size ≤ q → A q) (hn : ¬ n < 0) (hN : n.toNatClampNeg = N') (hb4 : N' ≤ 1000) (hcells : cells + 1 ≤ R.cells) (hslots : slots + N' ≤ R.slots) (hdg : decode cc pc = .ok (.newarray .int, 2))
    (kk : ∀ (q : Nat) (H1 : Heap), va_P D vwCl (ws ++ [(q, .inl (Ca 1, (N', .inl (fun _ => 0))))]) H1 → va_D A (ws ++ [(q, .inl (Ca 1, (N', .inl (fun _ => 0))))]) → va_S A H0 H1 locs → W p l e R s m args below meth c H1 locs (cells + 1) (slots + N') Q (F0 m (pc + 2) ls (.ref q :: rest))) : W p l e R s m args below meth c H locs cells slots Q (F0 m pc ls (.int n :: rest)) := by
  refine va_newa (atype := .int) (ty := .int) (a0 := (N', .inl (fun _ => 0))) hx hb harr rfl hK.1 hP hD hS hA (fun _ => rfl) hn hN (by show N' * 4 ≤ 536870912; omega) hcells hslots hdg (fun q cA H1 hK1 hP1 hD1 hS1 => ?_)
  have e1 : s.vm.findClass _ = some cA := (hK1.2 5 (cA, .int) rfl).2
  have e2 : s.vm.findClass _ = some (Ca 1) := (hK.1.2 0 (Ca 1, .int) rfl).2
  obtain rfl : cA = Ca 1 := Option.some.inj (e1.symm.trans e2)
  exact kk q H1 hP1 hD1 hS1
theorem kb_newZ {H0 : Heap} {N' : Nat} {n : Int32} (hx : p.tables.exec = Jvm.exec) (hb : c.code = cc) (harr : (Cond.arrayClass .boolean).before args s = true) (hK : kb_K D Ca s) (hP : va_P D vwCl ws H) (hD : va_D A ws) (hS : va_S A H0 H locs) (hA : ∀ q, H0.size ≤ q → A q) (hn : ¬ n < 0) (hN : n.toNatClampNeg = N') (hb4 : N' ≤ 1000) (hcells : cells + 1 ≤ R.cells) (hslots : slots + N' ≤ R.slots) (hdg : decode cc pc = .ok (.newarray .boolean, 2))
    (kk : ∀ (q : Nat) (H1 : Heap), va_P D vwCl (ws ++ [(q, .inl (Ca 2, (N', .inl (fun _ => 0))))]) H1 → va_D A (ws ++ [(q, .inl (Ca 2, (N', .inl (fun _ => 0))))]) → va_S A H0 H1 locs → W p l e R s m args below meth c H1 locs (cells + 1) (slots + N') Q (F0 m (pc + 2) ls (.ref q :: rest))) : W p l e R s m args below meth c H locs cells slots Q (F0 m pc ls (.int n :: rest)) := by
  refine va_newa (atype := .boolean) (ty := .boolean) (a0 := (N', .inl (fun _ => 0))) hx hb harr rfl hK.1 hP hD hS hA (fun _ => rfl) hn hN (by show N' * 1 ≤ 536870912; omega) hcells hslots hdg (fun q cA H1 hK1 hP1 hD1 hS1 => ?_)
  have e1 : s.vm.findClass _ = some cA := (hK1.2 5 (cA, .boolean) rfl).2
  have e2 : s.vm.findClass _ = some (Ca 2) := (hK.1.2 1 (Ca 2, .boolean) rfl).2
  obtain rfl : cA = Ca 2 := Option.some.inj (e1.symm.trans e2)
  exact kk q H1 hP1 hD1 hS1
theorem kb_newL {H0 : Heap} {N' : Nat} {n : Int32} (hx : p.tables.exec = Jvm.exec) (hb : c.code = cc) (harr : (Cond.arrayClass .long).before args s = true) (hK : kb_K D Ca s) (hP : va_P D vwCl ws H) (hD : va_D A ws) (hS : va_S A H0 H locs) (hA : ∀ q, H0.size ≤ q → A q) (hn : ¬ n < 0) (hN : n.toNatClampNeg = N') (hb4 : N' ≤ 1000) (hcells : cells + 1 ≤ R.cells) (hslots : slots + N' ≤ R.slots) (hdg : decode cc pc = .ok (.newarray .long, 2))
    (kk : ∀ (q : Nat) (H1 : Heap), va_P D vwCl (ws ++ [(q, .inl (Ca 3, (N', .inr (.inl (fun _ => 0)))))]) H1 → va_D A (ws ++ [(q, .inl (Ca 3, (N', .inr (.inl (fun _ => 0)))))]) → va_S A H0 H1 locs → W p l e R s m args below meth c H1 locs (cells + 1) (slots + N') Q (F0 m (pc + 2) ls (.ref q :: rest))) : W p l e R s m args below meth c H locs cells slots Q (F0 m pc ls (.int n :: rest)) := by
  refine va_newa (atype := .long) (ty := .long) (a0 := (N', .inr (.inl (fun _ => 0)))) hx hb harr rfl hK.1 hP hD hS hA (fun _ => rfl) hn hN (by show N' * 8 ≤ 536870912; omega) hcells hslots hdg (fun q cA H1 hK1 hP1 hD1 hS1 => ?_)
  have e1 : s.vm.findClass _ = some cA := (hK1.2 5 (cA, .long) rfl).2
  have e2 : s.vm.findClass _ = some (Ca 3) := (hK.1.2 2 (Ca 3, .long) rfl).2
  obtain rfl : cA = Ca 3 := Option.some.inj (e1.symm.trans e2)
  exact kk q H1 hP1 hD1 hS1
theorem kb_newq {H0 : Heap} {C : String} {j t N' index : Nat} {n : Int32} (hx : p.tables.exec = Jvm.exec) (hb : c.code = cc) (hown : s.vm.findClass own = some m.cls) (hcl : (Cond.classLink own index C).before args s = true) (hov : va_AO C s) (ht : (ax_tys Ca)[j]? = some (Ca t, .object C)) (hK : kb_K D Ca s) (hP : va_P D vwCl ws H) (hD : va_D A ws) (hS : va_S A H0 H locs) (hA : ∀ q, H0.size ≤ q → A q) (hn : ¬ n < 0) (hN : n.toNatClampNeg = N') (hb4 : N' ≤ 1000) (hcells : cells + 1 ≤ R.cells) (hslots : slots + N' ≤ R.slots) (hdg : decode cc pc = .ok (.anewarray index, 3))
    (kk : ∀ (q : Nat) (H1 : Heap), va_P D vwCl (ws ++ [(q, .inl (Ca t, (N', .inr (.inr (.inr (.inr (fun _ => none)))))))]) H1 → va_D A (ws ++ [(q, .inl (Ca t, (N', .inr (.inr (.inr (.inr (fun _ => none)))))))]) → va_S A H0 H1 locs → W p l e R s m args below meth c H1 locs (cells + 1) (slots + N') Q (F0 m (pc + 3) ls (.ref q :: rest))) : W p l e R s m args below meth c H locs cells slots Q (F0 m pc ls (.int n :: rest)) := by
  refine va_newq (C := C) hx hb hown hcl hov hK.1 hP hD hS hA hn hN (by omega) hcells hslots hdg (fun q cA H1 hK1 hP1 hD1 hS1 => ?_)
  obtain ⟨k1, c1, -, -, -, e1⟩ := (hK1.2 5 (cA, .object C) rfl).2
  obtain ⟨k2, c2, -, -, -, e2⟩ := (hK.1.2 j (Ca t, .object C) ht).2
  obtain rfl : cA = Ca t := Option.some.inj (e1.symm.trans e2)
  exact kk q H1 hP1 hD1 hS1
end KB

