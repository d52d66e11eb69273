theorem dX1_init_0 : decode cX1_init 0 = .ok (.aload_n 0, 1) := by decide +kernel
theorem dX1_init_1 : decode cX1_init 1 = .ok (.invokespecial 3, 3) := by decide +kernel
theorem dX1_init_4 : decode cX1_init 4 = .ok (.aload_n 0, 1) := by decide +kernel
theorem dX1_init_5 : decode cX1_init 5 = .ok (.bipush 40, 2) := by decide +kernel
theorem dX1_init_7 : decode cX1_init 7 = .ok (.newarray .int, 2) := by decide +kernel
theorem dX1_init_9 : decode cX1_init 9 = .ok (.putfield 9, 3) := by decide +kernel
theorem dX1_init_12 : decode cX1_init 12 = .ok (.aload_n 0, 1) := by decide +kernel
theorem dX1_init_13 : decode cX1_init 13 = .ok (.bipush 40, 2) := by decide +kernel
theorem dX1_init_15 : decode cX1_init 15 = .ok (.newarray .int, 2) := by decide +kernel
theorem dX1_init_17 : decode cX1_init 17 = .ok (.putfield 15, 3) := by decide +kernel
theorem dX1_init_20 : decode cX1_init 20 = .ok (.aload_n 0, 1) := by decide +kernel
theorem dX1_init_21 : decode cX1_init 21 = .ok (.bipush 40, 2) := by decide +kernel
theorem dX1_init_23 : decode cX1_init 23 = .ok (.newarray .int, 2) := by decide +kernel
theorem dX1_init_25 : decode cX1_init 25 = .ok (.putfield 18, 3) := by decide +kernel
theorem dX1_init_28 : decode cX1_init 28 = .ok (.aload_n 0, 1) := by decide +kernel
theorem dX1_init_29 : decode cX1_init 29 = .ok (.bipush 40, 2) := by decide +kernel
theorem dX1_init_31 : decode cX1_init 31 = .ok (.newarray .int, 2) := by decide +kernel
theorem dX1_init_33 : decode cX1_init 33 = .ok (.putfield 21, 3) := by decide +kernel
theorem dX1_init_36 : decode cX1_init 36 = .ok (.return_, 1) := by decide +kernel
theorem dX5_init_0 : decode cX5_init 0 = .ok (.aload_n 0, 1) := by decide +kernel
theorem dX5_init_1 : decode cX5_init 1 = .ok (.invokespecial 3, 3) := by decide +kernel
theorem dX5_init_4 : decode cX5_init 4 = .ok (.aload_n 0, 1) := by decide +kernel
theorem dX5_init_5 : decode cX5_init 5 = .ok (.bipush 9, 2) := by decide +kernel
theorem dX5_init_7 : decode cX5_init 7 = .ok (.newarray .int, 2) := by decide +kernel
theorem dX5_init_9 : decode cX5_init 9 = .ok (.putfield 9, 3) := by decide +kernel
theorem dX5_init_12 : decode cX5_init 12 = .ok (.aload_n 0, 1) := by decide +kernel
theorem dX5_init_13 : decode cX5_init 13 = .ok (.bipush 9, 2) := by decide +kernel
theorem dX5_init_15 : decode cX5_init 15 = .ok (.newarray .int, 2) := by decide +kernel
theorem dX5_init_17 : decode cX5_init 17 = .ok (.putfield 15, 3) := by decide +kernel
theorem dX5_init_20 : decode cX5_init 20 = .ok (.aload_n 0, 1) := by decide +kernel
theorem dX5_init_21 : decode cX5_init 21 = .ok (.bipush 9, 2) := by decide +kernel
theorem dX5_init_23 : decode cX5_init 23 = .ok (.newarray .int, 2) := by decide +kernel
theorem dX5_init_25 : decode cX5_init 25 = .ok (.putfield 18, 3) := by decide +kernel
theorem dX5_init_28 : decode cX5_init 28 = .ok (.aload_n 0, 1) := by decide +kernel
theorem dX5_init_29 : decode cX5_init 29 = .ok (.bipush 9, 2) := by decide +kernel
theorem dX5_init_31 : decode cX5_init 31 = .ok (.newarray .int, 2) := by decide +kernel
theorem dX5_init_33 : decode cX5_init 33 = .ok (.putfield 21, 3) := by decide +kernel
theorem dX5_init_36 : decode cX5_init 36 = .ok (.aload_n 0, 1) := by decide +kernel
theorem dX5_init_37 : decode cX5_init 37 = .ok (.bipush 7, 2) := by decide +kernel
theorem dX5_init_39 : decode cX5_init 39 = .ok (.newarray .int, 2) := by decide +kernel
theorem dX5_init_41 : decode cX5_init 41 = .ok (.putfield 24, 3) := by decide +kernel
theorem dX5_init_44 : decode cX5_init 44 = .ok (.aload_n 0, 1) := by decide +kernel
theorem dX5_init_45 : decode cX5_init 45 = .ok (.bipush 7, 2) := by decide +kernel
theorem dX5_init_47 : decode cX5_init 47 = .ok (.newarray .int, 2) := by decide +kernel
theorem dX5_init_49 : decode cX5_init 49 = .ok (.putfield 27, 3) := by decide +kernel
theorem dX5_init_52 : decode cX5_init 52 = .ok (.aload_n 0, 1) := by decide +kernel
theorem dX5_init_53 : decode cX5_init 53 = .ok (.bipush 7, 2) := by decide +kernel
theorem dX5_init_55 : decode cX5_init 55 = .ok (.newarray .int, 2) := by decide +kernel
theorem dX5_init_57 : decode cX5_init 57 = .ok (.putfield 30, 3) := by decide +kernel
theorem dX5_init_60 : decode cX5_init 60 = .ok (.aload_n 0, 1) := by decide +kernel
theorem dX5_init_61 : decode cX5_init 61 = .ok (.bipush 7, 2) := by decide +kernel
theorem dX5_init_63 : decode cX5_init 63 = .ok (.newarray .int, 2) := by decide +kernel
theorem dX5_init_65 : decode cX5_init 65 = .ok (.putfield 33, 3) := by decide +kernel
theorem dX5_init_68 : decode cX5_init 68 = .ok (.aload_n 0, 1) := by decide +kernel
theorem dX5_init_69 : decode cX5_init 69 = .ok (.new 36, 3) := by decide +kernel
theorem dX5_init_72 : decode cX5_init 72 = .ok (.dup, 1) := by decide +kernel
theorem dX5_init_73 : decode cX5_init 73 = .ok (.invokespecial 38, 3) := by decide +kernel
theorem dX5_init_76 : decode cX5_init 76 = .ok (.putfield 39, 3) := by decide +kernel
theorem dX5_init_79 : decode cX5_init 79 = .ok (.return_, 1) := by decide +kernel
theorem dX10_init_0 : decode cX10_init 0 = .ok (.aload_n 0, 1) := by decide +kernel
theorem dX10_init_1 : decode cX10_init 1 = .ok (.invokespecial 3, 3) := by decide +kernel
theorem dX10_init_4 : decode cX10_init 4 = .ok (.aload_n 0, 1) := by decide +kernel
theorem dX10_init_5 : decode cX10_init 5 = .ok (.sipush 1400, 3) := by decide +kernel
theorem dX10_init_8 : decode cX10_init 8 = .ok (.newarray .byte, 2) := by decide +kernel
theorem dX10_init_10 : decode cX10_init 10 = .ok (.putfield 9, 3) := by decide +kernel
theorem dX10_init_13 : decode cX10_init 13 = .ok (.return_, 1) := by decide +kernel
theorem dX8_init_0 : decode cX8_init 0 = .ok (.aload_n 0, 1) := by decide +kernel
theorem dX8_init_1 : decode cX8_init 1 = .ok (.invokespecial 3, 3) := by decide +kernel
theorem dX8_init_4 : decode cX8_init 4 = .ok (.aload_n 0, 1) := by decide +kernel
theorem dX8_init_5 : decode cX8_init 5 = .ok (.bipush 60, 2) := by decide +kernel
theorem dX8_init_7 : decode cX8_init 7 = .ok (.newarray .long, 2) := by decide +kernel
theorem dX8_init_9 : decode cX8_init 9 = .ok (.putfield 9, 3) := by decide +kernel
theorem dX8_init_12 : decode cX8_init 12 = .ok (.aload_n 0, 1) := by decide +kernel
theorem dX8_init_13 : decode cX8_init 13 = .ok (.iconst (-1), 1) := by decide +kernel
theorem dX8_init_14 : decode cX8_init 14 = .ok (.putfield 15, 3) := by decide +kernel
theorem dX8_init_17 : decode cX8_init 17 = .ok (.return_, 1) := by decide +kernel
theorem dX9_init_0 : decode cX9_init 0 = .ok (.aload_n 0, 1) := by decide +kernel
theorem dX9_init_1 : decode cX9_init 1 = .ok (.invokespecial 3, 3) := by decide +kernel
theorem dX9_init_4 : decode cX9_init 4 = .ok (.aload_n 0, 1) := by decide +kernel
theorem dX9_init_5 : decode cX9_init 5 = .ok (.sipush 512, 3) := by decide +kernel
theorem dX9_init_8 : decode cX9_init 8 = .ok (.newarray .long, 2) := by decide +kernel
theorem dX9_init_10 : decode cX9_init 10 = .ok (.putfield 9, 3) := by decide +kernel
theorem dX9_init_13 : decode cX9_init 13 = .ok (.return_, 1) := by decide +kernel
theorem dX6_init_0 : decode cX6_init 0 = .ok (.aload_n 0, 1) := by decide +kernel
theorem dX6_init_1 : decode cX6_init 1 = .ok (.invokespecial 3, 3) := by decide +kernel
theorem dX6_init_4 : decode cX6_init 4 = .ok (.aload_n 0, 1) := by decide +kernel
theorem dX6_init_5 : decode cX6_init 5 = .ok (.iconst (-1), 1) := by decide +kernel
theorem dX6_init_6 : decode cX6_init 6 = .ok (.putfield 9, 3) := by decide +kernel
theorem dX6_init_9 : decode cX6_init 9 = .ok (.aload_n 0, 1) := by decide +kernel
theorem dX6_init_10 : decode cX6_init 10 = .ok (.aload_n 1, 1) := by decide +kernel
theorem dX6_init_11 : decode cX6_init 11 = .ok (.putfield 15, 3) := by decide +kernel
theorem dX6_init_14 : decode cX6_init 14 = .ok (.aload_n 0, 1) := by decide +kernel
theorem dX6_init_15 : decode cX6_init 15 = .ok (.aload_n 2, 1) := by decide +kernel
theorem dX6_init_16 : decode cX6_init 16 = .ok (.putfield 19, 3) := by decide +kernel
theorem dX6_init_19 : decode cX6_init 19 = .ok (.return_, 1) := by decide +kernel
theorem dX0_init_0 : decode cX0_init 0 = .ok (.aload_n 0, 1) := by decide +kernel
theorem dX0_init_1 : decode cX0_init 1 = .ok (.invokespecial 3, 3) := by decide +kernel
theorem dX0_init_4 : decode cX0_init 4 = .ok (.aload_n 0, 1) := by decide +kernel
theorem dX0_init_5 : decode cX0_init 5 = .ok (.sipush 420, 3) := by decide +kernel
theorem dX0_init_8 : decode cX0_init 8 = .ok (.newarray .int, 2) := by decide +kernel
theorem dX0_init_10 : decode cX0_init 10 = .ok (.putfield 9, 3) := by decide +kernel
theorem dX0_init_13 : decode cX0_init 13 = .ok (.aload_n 0, 1) := by decide +kernel
theorem dX0_init_14 : decode cX0_init 14 = .ok (.bipush 60, 2) := by decide +kernel
theorem dX0_init_16 : decode cX0_init 16 = .ok (.newarray .boolean, 2) := by decide +kernel
theorem dX0_init_18 : decode cX0_init 18 = .ok (.putfield 15, 3) := by decide +kernel
theorem dX0_init_21 : decode cX0_init 21 = .ok (.aload_n 0, 1) := by decide +kernel
theorem dX0_init_22 : decode cX0_init 22 = .ok (.sipush 2160, 3) := by decide +kernel
theorem dX0_init_25 : decode cX0_init 25 = .ok (.newarray .int, 2) := by decide +kernel
theorem dX0_init_27 : decode cX0_init 27 = .ok (.putfield 19, 3) := by decide +kernel
theorem dX0_init_30 : decode cX0_init 30 = .ok (.aload_n 0, 1) := by decide +kernel
theorem dX0_init_31 : decode cX0_init 31 = .ok (.sipush 2160, 3) := by decide +kernel
theorem dX0_init_34 : decode cX0_init 34 = .ok (.newarray .int, 2) := by decide +kernel
theorem dX0_init_36 : decode cX0_init 36 = .ok (.putfield 22, 3) := by decide +kernel
theorem dX0_init_39 : decode cX0_init 39 = .ok (.aload_n 0, 1) := by decide +kernel
theorem dX0_init_40 : decode cX0_init 40 = .ok (.aload_n 1, 1) := by decide +kernel
theorem dX0_init_41 : decode cX0_init 41 = .ok (.putfield 25, 3) := by decide +kernel
theorem dX0_init_44 : decode cX0_init 44 = .ok (.return_, 1) := by decide +kernel
theorem dX2_init_0 : decode cX2_init 0 = .ok (.aload_n 0, 1) := by decide +kernel
theorem dX2_init_1 : decode cX2_init 1 = .ok (.invokespecial 3, 3) := by decide +kernel
theorem dX2_init_4 : decode cX2_init 4 = .ok (.aload_n 0, 1) := by decide +kernel
theorem dX2_init_5 : decode cX2_init 5 = .ok (.bipush 9, 2) := by decide +kernel
theorem dX2_init_7 : decode cX2_init 7 = .ok (.newarray .int, 2) := by decide +kernel
theorem dX2_init_9 : decode cX2_init 9 = .ok (.putfield 9, 3) := by decide +kernel
theorem dX2_init_12 : decode cX2_init 12 = .ok (.aload_n 0, 1) := by decide +kernel
theorem dX2_init_13 : decode cX2_init 13 = .ok (.aload_n 1, 1) := by decide +kernel
theorem dX2_init_14 : decode cX2_init 14 = .ok (.putfield 15, 3) := by decide +kernel
theorem dX2_init_17 : decode cX2_init 17 = .ok (.return_, 1) := by decide +kernel
theorem dX4_init_0 : decode cX4_init 0 = .ok (.aload_n 0, 1) := by decide +kernel
theorem dX4_init_1 : decode cX4_init 1 = .ok (.invokespecial 3, 3) := by decide +kernel
theorem dX4_init_4 : decode cX4_init 4 = .ok (.aload_n 0, 1) := by decide +kernel
theorem dX4_init_5 : decode cX4_init 5 = .ok (.bipush 9, 2) := by decide +kernel
theorem dX4_init_7 : decode cX4_init 7 = .ok (.newarray .int, 2) := by decide +kernel
theorem dX4_init_9 : decode cX4_init 9 = .ok (.putfield 9, 3) := by decide +kernel
theorem dX4_init_12 : decode cX4_init 12 = .ok (.aload_n 0, 1) := by decide +kernel
theorem dX4_init_13 : decode cX4_init 13 = .ok (.aload_n 1, 1) := by decide +kernel
theorem dX4_init_14 : decode cX4_init 14 = .ok (.putfield 15, 3) := by decide +kernel
theorem dX4_init_17 : decode cX4_init 17 = .ok (.return_, 1) := by decide +kernel
theorem dX7_init_0 : decode cX7_init 0 = .ok (.aload_n 0, 1) := by decide +kernel
theorem dX7_init_1 : decode cX7_init 1 = .ok (.invokespecial 3, 3) := by decide +kernel
theorem dX7_init_4 : decode cX7_init 4 = .ok (.aload_n 0, 1) := by decide +kernel
theorem dX7_init_5 : decode cX7_init 5 = .ok (.bipush 36, 2) := by decide +kernel
theorem dX7_init_7 : decode cX7_init 7 = .ok (.newarray .int, 2) := by decide +kernel
theorem dX7_init_9 : decode cX7_init 9 = .ok (.putfield 9, 3) := by decide +kernel
theorem dX7_init_12 : decode cX7_init 12 = .ok (.aload_n 0, 1) := by decide +kernel
theorem dX7_init_13 : decode cX7_init 13 = .ok (.bipush 36, 2) := by decide +kernel
theorem dX7_init_15 : decode cX7_init 15 = .ok (.newarray .int, 2) := by decide +kernel
theorem dX7_init_17 : decode cX7_init 17 = .ok (.putfield 15, 3) := by decide +kernel
theorem dX7_init_20 : decode cX7_init 20 = .ok (.aload_n 0, 1) := by decide +kernel
theorem dX7_init_21 : decode cX7_init 21 = .ok (.sipush 180, 3) := by decide +kernel
theorem dX7_init_24 : decode cX7_init 24 = .ok (.newarray .int, 2) := by decide +kernel
theorem dX7_init_26 : decode cX7_init 26 = .ok (.putfield 18, 3) := by decide +kernel
theorem dX7_init_29 : decode cX7_init 29 = .ok (.aload_n 0, 1) := by decide +kernel
theorem dX7_init_30 : decode cX7_init 30 = .ok (.sipush 720, 3) := by decide +kernel
theorem dX7_init_33 : decode cX7_init 33 = .ok (.newarray .int, 2) := by decide +kernel
theorem dX7_init_35 : decode cX7_init 35 = .ok (.putfield 21, 3) := by decide +kernel
theorem dX7_init_38 : decode cX7_init 38 = .ok (.aload_n 0, 1) := by decide +kernel
theorem dX7_init_39 : decode cX7_init 39 = .ok (.sipush 720, 3) := by decide +kernel
theorem dX7_init_42 : decode cX7_init 42 = .ok (.newarray .int, 2) := by decide +kernel
theorem dX7_init_44 : decode cX7_init 44 = .ok (.putfield 24, 3) := by decide +kernel
theorem dX7_init_47 : decode cX7_init 47 = .ok (.aload_n 0, 1) := by decide +kernel
theorem dX7_init_48 : decode cX7_init 48 = .ok (.sipush 720, 3) := by decide +kernel
theorem dX7_init_51 : decode cX7_init 51 = .ok (.newarray .int, 2) := by decide +kernel
theorem dX7_init_53 : decode cX7_init 53 = .ok (.putfield 27, 3) := by decide +kernel
theorem dX7_init_56 : decode cX7_init 56 = .ok (.aload_n 0, 1) := by decide +kernel
theorem dX7_init_57 : decode cX7_init 57 = .ok (.sipush 1440, 3) := by decide +kernel
theorem dX7_init_60 : decode cX7_init 60 = .ok (.newarray .int, 2) := by decide +kernel
theorem dX7_init_62 : decode cX7_init 62 = .ok (.putfield 30, 3) := by decide +kernel
theorem dX7_init_65 : decode cX7_init 65 = .ok (.aload_n 0, 1) := by decide +kernel
theorem dX7_init_66 : decode cX7_init 66 = .ok (.sipush 1440, 3) := by decide +kernel
theorem dX7_init_69 : decode cX7_init 69 = .ok (.newarray .int, 2) := by decide +kernel
theorem dX7_init_71 : decode cX7_init 71 = .ok (.putfield 33, 3) := by decide +kernel
theorem dX7_init_74 : decode cX7_init 74 = .ok (.aload_n 0, 1) := by decide +kernel
theorem dX7_init_75 : decode cX7_init 75 = .ok (.bipush 40, 2) := by decide +kernel
theorem dX7_init_77 : decode cX7_init 77 = .ok (.newarray .long, 2) := by decide +kernel
theorem dX7_init_79 : decode cX7_init 79 = .ok (.putfield 36, 3) := by decide +kernel
theorem dX7_init_82 : decode cX7_init 82 = .ok (.aload_n 0, 1) := by decide +kernel
theorem dX7_init_83 : decode cX7_init 83 = .ok (.aload_n 1, 1) := by decide +kernel
theorem dX7_init_84 : decode cX7_init 84 = .ok (.putfield 40, 3) := by decide +kernel
theorem dX7_init_87 : decode cX7_init 87 = .ok (.return_, 1) := by decide +kernel
theorem dX3_init_0 : decode cX3_init 0 = .ok (.aload_n 0, 1) := by decide +kernel
theorem dX3_init_1 : decode cX3_init 1 = .ok (.invokespecial 3, 3) := by decide +kernel
theorem dX3_init_4 : decode cX3_init 4 = .ok (.aload_n 0, 1) := by decide +kernel
theorem dX3_init_5 : decode cX3_init 5 = .ok (.iconst 5, 1) := by decide +kernel
theorem dX3_init_6 : decode cX3_init 6 = .ok (.newarray .int, 2) := by decide +kernel
theorem dX3_init_8 : decode cX3_init 8 = .ok (.putfield 9, 3) := by decide +kernel
theorem dX3_init_11 : decode cX3_init 11 = .ok (.aload_n 0, 1) := by decide +kernel
theorem dX3_init_12 : decode cX3_init 12 = .ok (.aload_n 1, 1) := by decide +kernel
theorem dX3_init_13 : decode cX3_init 13 = .ok (.putfield 15, 3) := by decide +kernel
theorem dX3_init_16 : decode cX3_init 16 = .ok (.return_, 1) := by decide +kernel
theorem dX11_init_0 : decode cX11_init 0 = .ok (.aload_n 0, 1) := by decide +kernel
theorem dX11_init_1 : decode cX11_init 1 = .ok (.invokespecial 1, 3) := by decide +kernel
theorem dX11_init_4 : decode cX11_init 4 = .ok (.aload_n 0, 1) := by decide +kernel
theorem dX11_init_5 : decode cX11_init 5 = .ok (.new 7, 3) := by decide +kernel
theorem dX11_init_8 : decode cX11_init 8 = .ok (.dup, 1) := by decide +kernel
theorem dX11_init_9 : decode cX11_init 9 = .ok (.invokespecial 9, 3) := by decide +kernel
theorem dX11_init_12 : decode cX11_init 12 = .ok (.putfield 10, 3) := by decide +kernel
theorem dX11_init_15 : decode cX11_init 15 = .ok (.aload_n 0, 1) := by decide +kernel
theorem dX11_init_16 : decode cX11_init 16 = .ok (.iconst 3, 1) := by decide +kernel
theorem dX11_init_17 : decode cX11_init 17 = .ok (.anewarray 16, 3) := by decide +kernel
theorem dX11_init_20 : decode cX11_init 20 = .ok (.putfield 18, 3) := by decide +kernel
theorem dX11_init_23 : decode cX11_init 23 = .ok (.aload_n 0, 1) := by decide +kernel
theorem dX11_init_24 : decode cX11_init 24 = .ok (.iconst 3, 1) := by decide +kernel
theorem dX11_init_25 : decode cX11_init 25 = .ok (.newarray .boolean, 2) := by decide +kernel
theorem dX11_init_27 : decode cX11_init 27 = .ok (.putfield 22, 3) := by decide +kernel
theorem dX11_init_30 : decode cX11_init 30 = .ok (.aload_n 0, 1) := by decide +kernel
theorem dX11_init_31 : decode cX11_init 31 = .ok (.iconst 4, 1) := by decide +kernel
theorem dX11_init_32 : decode cX11_init 32 = .ok (.anewarray 26, 3) := by decide +kernel
theorem dX11_init_35 : decode cX11_init 35 = .ok (.putfield 28, 3) := by decide +kernel
theorem dX11_init_38 : decode cX11_init 38 = .ok (.aload_n 0, 1) := by decide +kernel
theorem dX11_init_39 : decode cX11_init 39 = .ok (.new 16, 3) := by decide +kernel
theorem dX11_init_42 : decode cX11_init 42 = .ok (.dup, 1) := by decide +kernel
theorem dX11_init_43 : decode cX11_init 43 = .ok (.invokespecial 32, 3) := by decide +kernel
theorem dX11_init_46 : decode cX11_init 46 = .ok (.putfield 33, 3) := by decide +kernel
theorem dX11_init_49 : decode cX11_init 49 = .ok (.aload_n 0, 1) := by decide +kernel
theorem dX11_init_50 : decode cX11_init 50 = .ok (.new 16, 3) := by decide +kernel
theorem dX11_init_53 : decode cX11_init 53 = .ok (.dup, 1) := by decide +kernel
theorem dX11_init_54 : decode cX11_init 54 = .ok (.invokespecial 32, 3) := by decide +kernel
theorem dX11_init_57 : decode cX11_init 57 = .ok (.putfield 37, 3) := by decide +kernel
theorem dX11_init_60 : decode cX11_init 60 = .ok (.iconst 0, 1) := by decide +kernel
theorem dX11_init_61 : decode cX11_init 61 = .ok (.istore_n 1, 1) := by decide +kernel
theorem dX11_init_62 : decode cX11_init 62 = .ok (.iload_n 1, 1) := by decide +kernel
theorem dX11_init_63 : decode cX11_init 63 = .ok (.iconst 3, 1) := by decide +kernel
theorem dX11_init_64 : decode cX11_init 64 = .ok (.if_icmp .ge 22, 3) := by decide +kernel
theorem dX11_init_67 : decode cX11_init 67 = .ok (.aload_n 0, 1) := by decide +kernel
theorem dX11_init_68 : decode cX11_init 68 = .ok (.getfield 18, 3) := by decide +kernel
theorem dX11_init_71 : decode cX11_init 71 = .ok (.iload_n 1, 1) := by decide +kernel
theorem dX11_init_72 : decode cX11_init 72 = .ok (.new 16, 3) := by decide +kernel
theorem dX11_init_75 : decode cX11_init 75 = .ok (.dup, 1) := by decide +kernel
theorem dX11_init_76 : decode cX11_init 76 = .ok (.invokespecial 32, 3) := by decide +kernel
theorem dX11_init_79 : decode cX11_init 79 = .ok (.aastore, 1) := by decide +kernel
theorem dX11_init_80 : decode cX11_init 80 = .ok (.iinc 1 1, 3) := by decide +kernel
theorem dX11_init_83 : decode cX11_init 83 = .ok (.goto (-21), 3) := by decide +kernel
theorem dX11_init_86 : decode cX11_init 86 = .ok (.iconst 0, 1) := by decide +kernel
theorem dX11_init_87 : decode cX11_init 87 = .ok (.istore_n 1, 1) := by decide +kernel
theorem dX11_init_88 : decode cX11_init 88 = .ok (.iload_n 1, 1) := by decide +kernel
theorem dX11_init_89 : decode cX11_init 89 = .ok (.iconst 4, 1) := by decide +kernel
theorem dX11_init_90 : decode cX11_init 90 = .ok (.if_icmp .ge 22, 3) := by decide +kernel
theorem dX11_init_93 : decode cX11_init 93 = .ok (.aload_n 0, 1) := by decide +kernel
theorem dX11_init_94 : decode cX11_init 94 = .ok (.getfield 28, 3) := by decide +kernel
theorem dX11_init_97 : decode cX11_init 97 = .ok (.iload_n 1, 1) := by decide +kernel
theorem dX11_init_98 : decode cX11_init 98 = .ok (.new 26, 3) := by decide +kernel
theorem dX11_init_101 : decode cX11_init 101 = .ok (.dup, 1) := by decide +kernel
theorem dX11_init_102 : decode cX11_init 102 = .ok (.invokespecial 40, 3) := by decide +kernel
theorem dX11_init_105 : decode cX11_init 105 = .ok (.aastore, 1) := by decide +kernel
theorem dX11_init_106 : decode cX11_init 106 = .ok (.iinc 1 1, 3) := by decide +kernel
theorem dX11_init_109 : decode cX11_init 109 = .ok (.goto (-21), 3) := by decide +kernel
theorem dX11_init_112 : decode cX11_init 112 = .ok (.aload_n 0, 1) := by decide +kernel
theorem dX11_init_113 : decode cX11_init 113 = .ok (.new 41, 3) := by decide +kernel
theorem dX11_init_116 : decode cX11_init 116 = .ok (.dup, 1) := by decide +kernel
theorem dX11_init_117 : decode cX11_init 117 = .ok (.aload_n 0, 1) := by decide +kernel
theorem dX11_init_118 : decode cX11_init 118 = .ok (.getfield 10, 3) := by decide +kernel
theorem dX11_init_121 : decode cX11_init 121 = .ok (.aload_n 0, 1) := by decide +kernel
theorem dX11_init_122 : decode cX11_init 122 = .ok (.getfield 37, 3) := by decide +kernel
theorem dX11_init_125 : decode cX11_init 125 = .ok (.invokespecial 43, 3) := by decide +kernel
theorem dX11_init_128 : decode cX11_init 128 = .ok (.putfield 46, 3) := by decide +kernel
theorem dX11_init_131 : decode cX11_init 131 = .ok (.aload_n 0, 1) := by decide +kernel
theorem dX11_init_132 : decode cX11_init 132 = .ok (.new 50, 3) := by decide +kernel
theorem dX11_init_135 : decode cX11_init 135 = .ok (.dup, 1) := by decide +kernel
theorem dX11_init_136 : decode cX11_init 136 = .ok (.aload_n 0, 1) := by decide +kernel
theorem dX11_init_137 : decode cX11_init 137 = .ok (.getfield 33, 3) := by decide +kernel
theorem dX11_init_140 : decode cX11_init 140 = .ok (.invokespecial 52, 3) := by decide +kernel
theorem dX11_init_143 : decode cX11_init 143 = .ok (.putfield 55, 3) := by decide +kernel
theorem dX11_init_146 : decode cX11_init 146 = .ok (.aload_n 0, 1) := by decide +kernel
theorem dX11_init_147 : decode cX11_init 147 = .ok (.new 59, 3) := by decide +kernel
theorem dX11_init_150 : decode cX11_init 150 = .ok (.dup, 1) := by decide +kernel
theorem dX11_init_151 : decode cX11_init 151 = .ok (.aload_n 0, 1) := by decide +kernel
theorem dX11_init_152 : decode cX11_init 152 = .ok (.getfield 55, 3) := by decide +kernel
theorem dX11_init_155 : decode cX11_init 155 = .ok (.invokespecial 61, 3) := by decide +kernel
theorem dX11_init_158 : decode cX11_init 158 = .ok (.putfield 64, 3) := by decide +kernel
theorem dX11_init_161 : decode cX11_init 161 = .ok (.aload_n 0, 1) := by decide +kernel
theorem dX11_init_162 : decode cX11_init 162 = .ok (.new 68, 3) := by decide +kernel
theorem dX11_init_165 : decode cX11_init 165 = .ok (.dup, 1) := by decide +kernel
theorem dX11_init_166 : decode cX11_init 166 = .ok (.aload_n 0, 1) := by decide +kernel
theorem dX11_init_167 : decode cX11_init 167 = .ok (.getfield 55, 3) := by decide +kernel
theorem dX11_init_170 : decode cX11_init 170 = .ok (.invokespecial 70, 3) := by decide +kernel
theorem dX11_init_173 : decode cX11_init 173 = .ok (.putfield 71, 3) := by decide +kernel
theorem dX11_init_176 : decode cX11_init 176 = .ok (.aload_n 0, 1) := by decide +kernel
theorem dX11_init_177 : decode cX11_init 177 = .ok (.new 75, 3) := by decide +kernel
theorem dX11_init_180 : decode cX11_init 180 = .ok (.dup, 1) := by decide +kernel
theorem dX11_init_181 : decode cX11_init 181 = .ok (.aload_n 0, 1) := by decide +kernel
theorem dX11_init_182 : decode cX11_init 182 = .ok (.getfield 55, 3) := by decide +kernel
theorem dX11_init_185 : decode cX11_init 185 = .ok (.invokespecial 77, 3) := by decide +kernel
theorem dX11_init_188 : decode cX11_init 188 = .ok (.putfield 78, 3) := by decide +kernel
theorem dX11_init_191 : decode cX11_init 191 = .ok (.aload_n 0, 1) := by decide +kernel
theorem dX11_init_192 : decode cX11_init 192 = .ok (.new 82, 3) := by decide +kernel
theorem dX11_init_195 : decode cX11_init 195 = .ok (.dup, 1) := by decide +kernel
theorem dX11_init_196 : decode cX11_init 196 = .ok (.invokespecial 84, 3) := by decide +kernel
theorem dX11_init_199 : decode cX11_init 199 = .ok (.putfield 85, 3) := by decide +kernel
theorem dX11_init_202 : decode cX11_init 202 = .ok (.aload_n 0, 1) := by decide +kernel
theorem dX11_init_203 : decode cX11_init 203 = .ok (.new 89, 3) := by decide +kernel
theorem dX11_init_206 : decode cX11_init 206 = .ok (.dup, 1) := by decide +kernel
theorem dX11_init_207 : decode cX11_init 207 = .ok (.aload_n 0, 1) := by decide +kernel
theorem dX11_init_208 : decode cX11_init 208 = .ok (.getfield 55, 3) := by decide +kernel
theorem dX11_init_211 : decode cX11_init 211 = .ok (.invokespecial 91, 3) := by decide +kernel
theorem dX11_init_214 : decode cX11_init 214 = .ok (.putfield 92, 3) := by decide +kernel
theorem dX11_init_217 : decode cX11_init 217 = .ok (.return_, 1) := by decide +kernel
theorem dX5_isTold_0 : decode cX5_isTold 0 = .ok (.aload_n 0, 1) := by decide +kernel
theorem dX5_isTold_1 : decode cX5_isTold 1 = .ok (.getfield 43, 3) := by decide +kernel
theorem dX5_isTold_4 : decode cX5_isTold 4 = .ok (.ifCond .le 7, 3) := by decide +kernel
theorem dX5_isTold_11 : decode cX5_isTold 11 = .ok (.iconst 0, 1) := by decide +kernel
theorem dX5_isTold_12 : decode cX5_isTold 12 = .ok (.ireturn, 1) := by decide +kernel
theorem dX5_hasExit_0 : decode cX5_hasExit 0 = .ok (.iload_n 1, 1) := by decide +kernel
theorem dX5_hasExit_1 : decode cX5_hasExit 1 = .ok (.ifCond .lt 21, 3) := by decide +kernel
theorem dX5_hasExit_4 : decode cX5_hasExit 4 = .ok (.iload_n 1, 1) := by decide +kernel
theorem dX5_hasExit_5 : decode cX5_hasExit 5 = .ok (.aload_n 0, 1) := by decide +kernel
theorem dX5_hasExit_6 : decode cX5_hasExit 6 = .ok (.getfield 59, 3) := by decide +kernel
theorem dX5_hasExit_9 : decode cX5_hasExit 9 = .ok (.if_icmp .ge 13, 3) := by decide +kernel
theorem dX5_hasExit_22 : decode cX5_hasExit 22 = .ok (.iconst 0, 1) := by decide +kernel
theorem dX5_hasExit_23 : decode cX5_hasExit 23 = .ok (.ireturn, 1) := by decide +kernel
theorem dX5_hasPlace_0 : decode cX5_hasPlace 0 = .ok (.iload_n 1, 1) := by decide +kernel
theorem dX5_hasPlace_1 : decode cX5_hasPlace 1 = .ok (.ifCond .lt 21, 3) := by decide +kernel
theorem dX5_hasPlace_4 : decode cX5_hasPlace 4 = .ok (.iload_n 1, 1) := by decide +kernel
theorem dX5_hasPlace_5 : decode cX5_hasPlace 5 = .ok (.aload_n 0, 1) := by decide +kernel
theorem dX5_hasPlace_6 : decode cX5_hasPlace 6 = .ok (.getfield 56, 3) := by decide +kernel
theorem dX5_hasPlace_9 : decode cX5_hasPlace 9 = .ok (.if_icmp .ge 13, 3) := by decide +kernel
theorem dX5_hasPlace_22 : decode cX5_hasPlace 22 = .ok (.iconst 0, 1) := by decide +kernel
theorem dX5_hasPlace_23 : decode cX5_hasPlace 23 = .ok (.ireturn, 1) := by decide +kernel
theorem dX5_hasSeat_0 : decode cX5_hasSeat 0 = .ok (.iload_n 1, 1) := by decide +kernel
theorem dX5_hasSeat_1 : decode cX5_hasSeat 1 = .ok (.ifCond .lt 27, 3) := by decide +kernel
theorem dX5_hasSeat_4 : decode cX5_hasSeat 4 = .ok (.iload_n 1, 1) := by decide +kernel
theorem dX5_hasSeat_5 : decode cX5_hasSeat 5 = .ok (.aload_n 0, 1) := by decide +kernel
theorem dX5_hasSeat_6 : decode cX5_hasSeat 6 = .ok (.getfield 47, 3) := by decide +kernel
theorem dX5_hasSeat_9 : decode cX5_hasSeat 9 = .ok (.if_icmp .ge 19, 3) := by decide +kernel
theorem dX5_hasSeat_28 : decode cX5_hasSeat 28 = .ok (.iconst 0, 1) := by decide +kernel
theorem dX5_hasSeat_29 : decode cX5_hasSeat 29 = .ok (.ireturn, 1) := by decide +kernel
theorem dX11_isAct_0 : decode cX11_isAct 0 = .ok (.iload_n 0, 1) := by decide +kernel
theorem dX11_isAct_1 : decode cX11_isAct 1 = .ok (.ifCond .lt 13, 3) := by decide +kernel
theorem dX11_isAct_4 : decode cX11_isAct 4 = .ok (.iload_n 0, 1) := by decide +kernel
theorem dX11_isAct_5 : decode cX11_isAct 5 = .ok (.bipush 60, 2) := by decide +kernel
theorem dX11_isAct_7 : decode cX11_isAct 7 = .ok (.if_icmp .ge 7, 3) := by decide +kernel
theorem dX11_isAct_10 : decode cX11_isAct 10 = .ok (.iconst 1, 1) := by decide +kernel
theorem dX11_isAct_11 : decode cX11_isAct 11 = .ok (.goto 4, 3) := by decide +kernel
theorem dX11_isAct_14 : decode cX11_isAct 14 = .ok (.iconst 0, 1) := by decide +kernel
theorem dX11_isAct_15 : decode cX11_isAct 15 = .ok (.ireturn, 1) := by decide +kernel
theorem dX11_isCountOfActs_0 : decode cX11_isCountOfActs 0 = .ok (.iload_n 0, 1) := by decide +kernel
theorem dX11_isCountOfActs_1 : decode cX11_isCountOfActs 1 = .ok (.iconst 1, 1) := by decide +kernel
theorem dX11_isCountOfActs_2 : decode cX11_isCountOfActs 2 = .ok (.if_icmp .lt 13, 3) := by decide +kernel
theorem dX11_isCountOfActs_5 : decode cX11_isCountOfActs 5 = .ok (.iload_n 0, 1) := by decide +kernel
theorem dX11_isCountOfActs_6 : decode cX11_isCountOfActs 6 = .ok (.bipush 60, 2) := by decide +kernel
theorem dX11_isCountOfActs_8 : decode cX11_isCountOfActs 8 = .ok (.if_icmp .gt 7, 3) := by decide +kernel
theorem dX11_isCountOfActs_11 : decode cX11_isCountOfActs 11 = .ok (.iconst 1, 1) := by decide +kernel
theorem dX11_isCountOfActs_12 : decode cX11_isCountOfActs 12 = .ok (.goto 4, 3) := by decide +kernel
theorem dX11_isCountOfActs_15 : decode cX11_isCountOfActs 15 = .ok (.iconst 0, 1) := by decide +kernel
theorem dX11_isCountOfActs_16 : decode cX11_isCountOfActs 16 = .ok (.ireturn, 1) := by decide +kernel
theorem dX11_isSlot_0 : decode cX11_isSlot 0 = .ok (.iload_n 0, 1) := by decide +kernel
theorem dX11_isSlot_1 : decode cX11_isSlot 1 = .ok (.ifCond .lt 12, 3) := by decide +kernel
theorem dX11_isSlot_4 : decode cX11_isSlot 4 = .ok (.iload_n 0, 1) := by decide +kernel
theorem dX11_isSlot_5 : decode cX11_isSlot 5 = .ok (.iconst 4, 1) := by decide +kernel
theorem dX11_isSlot_6 : decode cX11_isSlot 6 = .ok (.if_icmp .ge 7, 3) := by decide +kernel
theorem dX11_isSlot_9 : decode cX11_isSlot 9 = .ok (.iconst 1, 1) := by decide +kernel
theorem dX11_isSlot_10 : decode cX11_isSlot 10 = .ok (.goto 4, 3) := by decide +kernel
theorem dX11_isSlot_13 : decode cX11_isSlot 13 = .ok (.iconst 0, 1) := by decide +kernel
theorem dX11_isSlot_14 : decode cX11_isSlot 14 = .ok (.ireturn, 1) := by decide +kernel
theorem dX11_canDraw_0 : decode cX11_canDraw 0 = .ok (.iload_n 1, 1) := by decide +kernel
theorem dX11_canDraw_1 : decode cX11_canDraw 1 = .ok (.ifCond .lt 31, 3) := by decide +kernel
theorem dX11_canDraw_4 : decode cX11_canDraw 4 = .ok (.iload_n 1, 1) := by decide +kernel
theorem dX11_canDraw_5 : decode cX11_canDraw 5 = .ok (.ldc_w 382, 3) := by decide +kernel
theorem dX11_canDraw_8 : decode cX11_canDraw 8 = .ok (.if_icmp .gt 24, 3) := by decide +kernel
theorem dX11_canDraw_11 : decode cX11_canDraw 11 = .ok (.iload_n 2, 1) := by decide +kernel
theorem dX11_canDraw_12 : decode cX11_canDraw 12 = .ok (.invokestatic 167, 3) := by decide +kernel
theorem dX11_canDraw_15 : decode cX11_canDraw 15 = .ok (.ifCond .eq 17, 3) := by decide +kernel
theorem dX11_canDraw_18 : decode cX11_canDraw 18 = .ok (.aload_n 0, 1) := by decide +kernel
theorem dX11_canDraw_19 : decode cX11_canDraw 19 = .ok (.getfield 33, 3) := by decide +kernel
theorem dX11_canDraw_22 : decode cX11_canDraw 22 = .ok (.getfield 293, 3) := by decide +kernel
theorem dX11_canDraw_25 : decode cX11_canDraw 25 = .ok (.ifCond .le 7, 3) := by decide +kernel
theorem dX11_canDraw_32 : decode cX11_canDraw 32 = .ok (.iconst 0, 1) := by decide +kernel
theorem dX11_canDraw_33 : decode cX11_canDraw 33 = .ok (.ireturn, 1) := by decide +kernel
theorem dX11_refusalOfRow_0 : decode cX11_refusalOfRow 0 = .ok (.iload_n 1, 1) := by decide +kernel
theorem dX11_refusalOfRow_1 : decode cX11_refusalOfRow 1 = .ok (.invokestatic 351, 3) := by decide +kernel
theorem dX11_refusalOfRow_4 : decode cX11_refusalOfRow 4 = .ok (.ifCond .eq 18, 3) := by decide +kernel
theorem dX11_refusalOfRow_7 : decode cX11_refusalOfRow 7 = .ok (.aload_n 0, 1) := by decide +kernel
theorem dX11_refusalOfRow_8 : decode cX11_refusalOfRow 8 = .ok (.getfield 33, 3) := by decide +kernel
theorem dX11_refusalOfRow_11 : decode cX11_refusalOfRow 11 = .ok (.invokevirtual 179, 3) := by decide +kernel
theorem dX11_refusalOfRow_14 : decode cX11_refusalOfRow 14 = .ok (.ifCond .eq 8, 3) := by decide +kernel
theorem dX11_refusalOfRow_22 : decode cX11_refusalOfRow 22 = .ok (.bipush (-2), 2) := by decide +kernel
theorem dX11_refusalOfRow_24 : decode cX11_refusalOfRow 24 = .ok (.ireturn, 1) := by decide +kernel
theorem dX11_refusalOfSeen_0 : decode cX11_refusalOfSeen 0 = .ok (.aload_n 0, 1) := by decide +kernel
theorem dX11_refusalOfSeen_1 : decode cX11_refusalOfSeen 1 = .ok (.iload_n 1, 1) := by decide +kernel
theorem dX11_refusalOfSeen_2 : decode cX11_refusalOfSeen 2 = .ok (.iconst 2, 1) := by decide +kernel
theorem dX11_refusalOfSeen_3 : decode cX11_refusalOfSeen 3 = .ok (.invokevirtual 383, 3) := by decide +kernel
theorem dX11_refusalOfSeen_6 : decode cX11_refusalOfSeen 6 = .ok (.istore_n 2, 1) := by decide +kernel
theorem dX11_refusalOfSeen_7 : decode cX11_refusalOfSeen 7 = .ok (.iload_n 2, 1) := by decide +kernel
theorem dX11_refusalOfSeen_8 : decode cX11_refusalOfSeen 8 = .ok (.ifCond .eq 5, 3) := by decide +kernel
theorem dX11_refusalOfSeen_11 : decode cX11_refusalOfSeen 11 = .ok (.iload_n 2, 1) := by decide +kernel
theorem dX11_refusalOfSeen_12 : decode cX11_refusalOfSeen 12 = .ok (.ireturn, 1) := by decide +kernel
theorem dX11_refusalOfFell_0 : decode cX11_refusalOfFell 0 = .ok (.aload_n 0, 1) := by decide +kernel
theorem dX11_refusalOfFell_1 : decode cX11_refusalOfFell 1 = .ok (.iload_n 1, 1) := by decide +kernel
theorem dX11_refusalOfFell_2 : decode cX11_refusalOfFell 2 = .ok (.iconst 3, 1) := by decide +kernel
theorem dX11_refusalOfFell_3 : decode cX11_refusalOfFell 3 = .ok (.invokevirtual 383, 3) := by decide +kernel
theorem dX11_refusalOfFell_6 : decode cX11_refusalOfFell 6 = .ok (.istore_n 2, 1) := by decide +kernel
theorem dX11_refusalOfFell_7 : decode cX11_refusalOfFell 7 = .ok (.iload_n 2, 1) := by decide +kernel
theorem dX11_refusalOfFell_8 : decode cX11_refusalOfFell 8 = .ok (.ifCond .eq 5, 3) := by decide +kernel
theorem dX11_refusalOfFell_11 : decode cX11_refusalOfFell 11 = .ok (.iload_n 2, 1) := by decide +kernel
theorem dX11_refusalOfFell_12 : decode cX11_refusalOfFell 12 = .ok (.ireturn, 1) := by decide +kernel
theorem dX11_place_0 : decode cX11_place 0 = .ok (.aload_n 0, 1) := by decide +kernel
theorem dX11_place_1 : decode cX11_place 1 = .ok (.getfield 33, 3) := by decide +kernel
theorem dX11_place_4 : decode cX11_place 4 = .ok (.iload_n 1, 1) := by decide +kernel
theorem dX11_place_5 : decode cX11_place 5 = .ok (.invokevirtual 124, 3) := by decide +kernel
theorem dX11_place_8 : decode cX11_place 8 = .ok (.ifCond .ne 6, 3) := by decide +kernel
theorem dX11_place_11 : decode cX11_place 11 = .ok (.bipush (-2), 2) := by decide +kernel
theorem dX11_place_13 : decode cX11_place 13 = .ok (.ireturn, 1) := by decide +kernel
theorem dX11_exit_0 : decode cX11_exit 0 = .ok (.aload_n 0, 1) := by decide +kernel
theorem dX11_exit_1 : decode cX11_exit 1 = .ok (.getfield 33, 3) := by decide +kernel
theorem dX11_exit_4 : decode cX11_exit 4 = .ok (.iload_n 1, 1) := by decide +kernel
theorem dX11_exit_5 : decode cX11_exit 5 = .ok (.invokevirtual 141, 3) := by decide +kernel
theorem dX11_exit_8 : decode cX11_exit 8 = .ok (.ifCond .ne 6, 3) := by decide +kernel
theorem dX11_exit_11 : decode cX11_exit 11 = .ok (.bipush (-2), 2) := by decide +kernel
theorem dX11_exit_13 : decode cX11_exit 13 = .ok (.ireturn, 1) := by decide +kernel
theorem dX11_sits_0 : decode cX11_sits 0 = .ok (.aload_n 0, 1) := by decide +kernel
theorem dX11_sits_1 : decode cX11_sits 1 = .ok (.getfield 33, 3) := by decide +kernel
theorem dX11_sits_4 : decode cX11_sits 4 = .ok (.iload_n 1, 1) := by decide +kernel
theorem dX11_sits_5 : decode cX11_sits 5 = .ok (.iload_n 2, 1) := by decide +kernel
theorem dX11_sits_6 : decode cX11_sits 6 = .ok (.invokevirtual 156, 3) := by decide +kernel
theorem dX11_sits_9 : decode cX11_sits 9 = .ok (.ifCond .ne 6, 3) := by decide +kernel
theorem dX11_sits_12 : decode cX11_sits 12 = .ok (.bipush (-2), 2) := by decide +kernel
theorem dX11_sits_14 : decode cX11_sits 14 = .ok (.ireturn, 1) := by decide +kernel
theorem dX11_at_0 : decode cX11_at 0 = .ok (.aload_n 0, 1) := by decide +kernel
theorem dX11_at_1 : decode cX11_at 1 = .ok (.getfield 33, 3) := by decide +kernel
theorem dX11_at_4 : decode cX11_at 4 = .ok (.iload_n 1, 1) := by decide +kernel
theorem dX11_at_5 : decode cX11_at 5 = .ok (.invokevirtual 141, 3) := by decide +kernel
theorem dX11_at_8 : decode cX11_at 8 = .ok (.ifCond .eq 10, 3) := by decide +kernel
theorem dX11_at_18 : decode cX11_at 18 = .ok (.bipush (-2), 2) := by decide +kernel
theorem dX11_at_20 : decode cX11_at 20 = .ok (.ireturn, 1) := by decide +kernel
theorem dX11_who_0 : decode cX11_who 0 = .ok (.aload_n 0, 1) := by decide +kernel
theorem dX11_who_1 : decode cX11_who 1 = .ok (.getfield 33, 3) := by decide +kernel
theorem dX11_who_4 : decode cX11_who 4 = .ok (.iload_n 1, 1) := by decide +kernel
theorem dX11_who_5 : decode cX11_who 5 = .ok (.invokevirtual 124, 3) := by decide +kernel
theorem dX11_who_8 : decode cX11_who 8 = .ok (.ifCond .eq 10, 3) := by decide +kernel
theorem dX11_who_18 : decode cX11_who 18 = .ok (.bipush (-2), 2) := by decide +kernel
theorem dX11_who_20 : decode cX11_who 20 = .ok (.ireturn, 1) := by decide +kernel
theorem dX11_behind_0 : decode cX11_behind 0 = .ok (.aload_n 0, 1) := by decide +kernel
theorem dX11_behind_1 : decode cX11_behind 1 = .ok (.getfield 33, 3) := by decide +kernel
theorem dX11_behind_4 : decode cX11_behind 4 = .ok (.iload_n 1, 1) := by decide +kernel
theorem dX11_behind_5 : decode cX11_behind 5 = .ok (.invokevirtual 141, 3) := by decide +kernel
theorem dX11_behind_8 : decode cX11_behind 8 = .ok (.ifCond .eq 10, 3) := by decide +kernel
theorem dX11_behind_18 : decode cX11_behind 18 = .ok (.bipush (-2), 2) := by decide +kernel
theorem dX11_behind_20 : decode cX11_behind 20 = .ok (.ireturn, 1) := by decide +kernel
theorem dX11_leads_0 : decode cX11_leads 0 = .ok (.aload_n 0, 1) := by decide +kernel
theorem dX11_leads_1 : decode cX11_leads 1 = .ok (.getfield 33, 3) := by decide +kernel
theorem dX11_leads_4 : decode cX11_leads 4 = .ok (.invokevirtual 179, 3) := by decide +kernel
theorem dX11_leads_7 : decode cX11_leads 7 = .ok (.ifCond .eq 17, 3) := by decide +kernel
theorem dX11_leads_24 : decode cX11_leads 24 = .ok (.bipush (-2), 2) := by decide +kernel
theorem dX11_leads_26 : decode cX11_leads 26 = .ok (.ireturn, 1) := by decide +kernel
theorem dX11_doubles_0 : decode cX11_doubles 0 = .ok (.aload_n 0, 1) := by decide +kernel
theorem dX11_doubles_1 : decode cX11_doubles 1 = .ok (.getfield 33, 3) := by decide +kernel
theorem dX11_doubles_4 : decode cX11_doubles 4 = .ok (.invokevirtual 179, 3) := by decide +kernel
theorem dX11_doubles_7 : decode cX11_doubles 7 = .ok (.ifCond .eq 10, 3) := by decide +kernel
theorem dX11_doubles_17 : decode cX11_doubles 17 = .ok (.bipush (-2), 2) := by decide +kernel
theorem dX11_doubles_19 : decode cX11_doubles 19 = .ok (.ireturn, 1) := by decide +kernel
theorem dX11_slip_0 : decode cX11_slip 0 = .ok (.aload_n 0, 1) := by decide +kernel
theorem dX11_slip_1 : decode cX11_slip 1 = .ok (.getfield 33, 3) := by decide +kernel
theorem dX11_slip_4 : decode cX11_slip 4 = .ok (.invokevirtual 179, 3) := by decide +kernel
theorem dX11_slip_7 : decode cX11_slip 7 = .ok (.ifCond .ne 6, 3) := by decide +kernel
theorem dX11_slip_10 : decode cX11_slip 10 = .ok (.bipush (-2), 2) := by decide +kernel
theorem dX11_slip_12 : decode cX11_slip 12 = .ok (.ireturn, 1) := by decide +kernel
theorem dX11_round_0 : decode cX11_round 0 = .ok (.aload_n 0, 1) := by decide +kernel
theorem dX11_round_1 : decode cX11_round 1 = .ok (.getfield 33, 3) := by decide +kernel
theorem dX11_round_4 : decode cX11_round 4 = .ok (.invokevirtual 179, 3) := by decide +kernel
theorem dX11_round_7 : decode cX11_round 7 = .ok (.ifCond .ne 6, 3) := by decide +kernel
theorem dX11_round_10 : decode cX11_round 10 = .ok (.bipush (-2), 2) := by decide +kernel
theorem dX11_round_12 : decode cX11_round 12 = .ok (.ireturn, 1) := by decide +kernel
theorem dX11_again_0 : decode cX11_again 0 = .ok (.aload_n 0, 1) := by decide +kernel
theorem dX11_again_1 : decode cX11_again 1 = .ok (.getfield 33, 3) := by decide +kernel
theorem dX11_again_4 : decode cX11_again 4 = .ok (.invokevirtual 179, 3) := by decide +kernel
theorem dX11_again_7 : decode cX11_again 7 = .ok (.ifCond .ne 6, 3) := by decide +kernel
theorem dX11_again_10 : decode cX11_again 10 = .ok (.bipush (-2), 2) := by decide +kernel
theorem dX11_again_12 : decode cX11_again 12 = .ok (.ireturn, 1) := by decide +kernel
theorem dX11_next_0 : decode cX11_next 0 = .ok (.aload_n 0, 1) := by decide +kernel
theorem dX11_next_1 : decode cX11_next 1 = .ok (.getfield 33, 3) := by decide +kernel
theorem dX11_next_4 : decode cX11_next 4 = .ok (.iload_n 1, 1) := by decide +kernel
theorem dX11_next_5 : decode cX11_next 5 = .ok (.invokevirtual 141, 3) := by decide +kernel
theorem dX11_next_8 : decode cX11_next 8 = .ok (.ifCond .eq 21, 3) := by decide +kernel
theorem dX11_next_29 : decode cX11_next 29 = .ok (.bipush (-2), 2) := by decide +kernel
theorem dX11_next_31 : decode cX11_next 31 = .ok (.ireturn, 1) := by decide +kernel
theorem dX11_sees_0 : decode cX11_sees 0 = .ok (.aload_n 0, 1) := by decide +kernel
theorem dX11_sees_1 : decode cX11_sees 1 = .ok (.getfield 33, 3) := by decide +kernel
theorem dX11_sees_4 : decode cX11_sees 4 = .ok (.iload_n 1, 1) := by decide +kernel
theorem dX11_sees_5 : decode cX11_sees 5 = .ok (.invokevirtual 141, 3) := by decide +kernel
theorem dX11_sees_8 : decode cX11_sees 8 = .ok (.ifCond .ne 6, 3) := by decide +kernel
theorem dX11_sees_11 : decode cX11_sees 11 = .ok (.bipush (-2), 2) := by decide +kernel
theorem dX11_sees_13 : decode cX11_sees 13 = .ok (.ireturn, 1) := by decide +kernel
theorem dX11_far_0 : decode cX11_far 0 = .ok (.aload_n 0, 1) := by decide +kernel
theorem dX11_far_1 : decode cX11_far 1 = .ok (.getfield 33, 3) := by decide +kernel
theorem dX11_far_4 : decode cX11_far 4 = .ok (.iload_n 1, 1) := by decide +kernel
theorem dX11_far_5 : decode cX11_far 5 = .ok (.iload_n 2, 1) := by decide +kernel
theorem dX11_far_6 : decode cX11_far 6 = .ok (.invokevirtual 156, 3) := by decide +kernel
theorem dX11_far_9 : decode cX11_far 9 = .ok (.ifCond .eq 10, 3) := by decide +kernel
theorem dX11_far_19 : decode cX11_far 19 = .ok (.bipush (-2), 2) := by decide +kernel
theorem dX11_far_21 : decode cX11_far 21 = .ok (.ireturn, 1) := by decide +kernel
theorem dX11_by_0 : decode cX11_by 0 = .ok (.aload_n 0, 1) := by decide +kernel
theorem dX11_by_1 : decode cX11_by 1 = .ok (.getfield 33, 3) := by decide +kernel
theorem dX11_by_4 : decode cX11_by 4 = .ok (.iload_n 1, 1) := by decide +kernel
theorem dX11_by_5 : decode cX11_by 5 = .ok (.iload_n 2, 1) := by decide +kernel
theorem dX11_by_6 : decode cX11_by 6 = .ok (.invokevirtual 156, 3) := by decide +kernel
theorem dX11_by_9 : decode cX11_by 9 = .ok (.ifCond .eq 10, 3) := by decide +kernel
theorem dX11_by_19 : decode cX11_by 19 = .ok (.bipush (-2), 2) := by decide +kernel
theorem dX11_by_21 : decode cX11_by 21 = .ok (.ireturn, 1) := by decide +kernel
theorem dX11_falls_0 : decode cX11_falls 0 = .ok (.aload_n 0, 1) := by decide +kernel
theorem dX11_falls_1 : decode cX11_falls 1 = .ok (.getfield 33, 3) := by decide +kernel
theorem dX11_falls_4 : decode cX11_falls 4 = .ok (.iload_n 1, 1) := by decide +kernel
theorem dX11_falls_5 : decode cX11_falls 5 = .ok (.iload_n 2, 1) := by decide +kernel
theorem dX11_falls_6 : decode cX11_falls 6 = .ok (.invokevirtual 156, 3) := by decide +kernel
theorem dX11_falls_9 : decode cX11_falls 9 = .ok (.ifCond .eq 10, 3) := by decide +kernel
theorem dX11_falls_19 : decode cX11_falls 19 = .ok (.bipush (-2), 2) := by decide +kernel
theorem dX11_falls_21 : decode cX11_falls 21 = .ok (.ireturn, 1) := by decide +kernel
theorem dX11_best_0 : decode cX11_best 0 = .ok (.aload_n 0, 1) := by decide +kernel
theorem dX11_best_1 : decode cX11_best 1 = .ok (.getfield 33, 3) := by decide +kernel
theorem dX11_best_4 : decode cX11_best 4 = .ok (.invokevirtual 179, 3) := by decide +kernel
theorem dX11_best_7 : decode cX11_best 7 = .ok (.ifCond .eq 10, 3) := by decide +kernel
theorem dX11_best_17 : decode cX11_best 17 = .ok (.bipush (-2), 2) := by decide +kernel
theorem dX11_best_19 : decode cX11_best 19 = .ok (.ireturn, 1) := by decide +kernel
theorem dX11_worst_0 : decode cX11_worst 0 = .ok (.aload_n 0, 1) := by decide +kernel
theorem dX11_worst_1 : decode cX11_worst 1 = .ok (.getfield 33, 3) := by decide +kernel
theorem dX11_worst_4 : decode cX11_worst 4 = .ok (.invokevirtual 179, 3) := by decide +kernel
theorem dX11_worst_7 : decode cX11_worst 7 = .ok (.ifCond .eq 10, 3) := by decide +kernel
theorem dX11_worst_17 : decode cX11_worst 17 = .ok (.bipush (-2), 2) := by decide +kernel
theorem dX11_worst_19 : decode cX11_worst 19 = .ok (.ireturn, 1) := by decide +kernel
theorem dX11_kept_0 : decode cX11_kept 0 = .ok (.aload_n 0, 1) := by decide +kernel
theorem dX11_kept_1 : decode cX11_kept 1 = .ok (.getfield 33, 3) := by decide +kernel
theorem dX11_kept_4 : decode cX11_kept 4 = .ok (.invokevirtual 179, 3) := by decide +kernel
theorem dX11_kept_7 : decode cX11_kept 7 = .ok (.ifCond .eq 10, 3) := by decide +kernel
theorem dX11_kept_17 : decode cX11_kept 17 = .ok (.bipush (-2), 2) := by decide +kernel
theorem dX11_kept_19 : decode cX11_kept 19 = .ok (.ireturn, 1) := by decide +kernel
theorem dX11_breaks_0 : decode cX11_breaks 0 = .ok (.aload_n 0, 1) := by decide +kernel
theorem dX11_breaks_1 : decode cX11_breaks 1 = .ok (.getfield 33, 3) := by decide +kernel
theorem dX11_breaks_4 : decode cX11_breaks 4 = .ok (.invokevirtual 179, 3) := by decide +kernel
theorem dX11_breaks_7 : decode cX11_breaks 7 = .ok (.ifCond .eq 10, 3) := by decide +kernel
theorem dX11_breaks_17 : decode cX11_breaks 17 = .ok (.bipush (-2), 2) := by decide +kernel
theorem dX11_breaks_19 : decode cX11_breaks 19 = .ok (.ireturn, 1) := by decide +kernel
theorem dX11_screws_0 : decode cX11_screws 0 = .ok (.aload_n 0, 1) := by decide +kernel
theorem dX11_screws_1 : decode cX11_screws 1 = .ok (.getfield 33, 3) := by decide +kernel
theorem dX11_screws_4 : decode cX11_screws 4 = .ok (.invokevirtual 179, 3) := by decide +kernel
theorem dX11_screws_7 : decode cX11_screws 7 = .ok (.ifCond .eq 10, 3) := by decide +kernel
theorem dX11_screws_17 : decode cX11_screws 17 = .ok (.bipush (-2), 2) := by decide +kernel
theorem dX11_screws_19 : decode cX11_screws 19 = .ok (.ireturn, 1) := by decide +kernel
theorem dX11_lawful_0 : decode cX11_lawful 0 = .ok (.aload_n 0, 1) := by decide +kernel
theorem dX11_lawful_1 : decode cX11_lawful 1 = .ok (.getfield 33, 3) := by decide +kernel
theorem dX11_lawful_4 : decode cX11_lawful 4 = .ok (.invokevirtual 179, 3) := by decide +kernel
theorem dX11_lawful_7 : decode cX11_lawful 7 = .ok (.ifCond .ne 6, 3) := by decide +kernel
theorem dX11_lawful_10 : decode cX11_lawful 10 = .ok (.bipush (-2), 2) := by decide +kernel
theorem dX11_lawful_12 : decode cX11_lawful 12 = .ok (.ireturn, 1) := by decide +kernel
theorem dX11_out_0 : decode cX11_out 0 = .ok (.aload_n 0, 1) := by decide +kernel
theorem dX11_out_1 : decode cX11_out 1 = .ok (.getfield 33, 3) := by decide +kernel
theorem dX11_out_4 : decode cX11_out 4 = .ok (.invokevirtual 179, 3) := by decide +kernel
theorem dX11_out_7 : decode cX11_out 7 = .ok (.ifCond .eq 20, 3) := by decide +kernel
theorem dX11_out_27 : decode cX11_out 27 = .ok (.bipush (-2), 2) := by decide +kernel
theorem dX11_out_29 : decode cX11_out 29 = .ok (.ireturn, 1) := by decide +kernel
theorem dX11_soonest_0 : decode cX11_soonest 0 = .ok (.aload_n 0, 1) := by decide +kernel
theorem dX11_soonest_1 : decode cX11_soonest 1 = .ok (.getfield 33, 3) := by decide +kernel
theorem dX11_soonest_4 : decode cX11_soonest 4 = .ok (.invokevirtual 179, 3) := by decide +kernel
theorem dX11_soonest_7 : decode cX11_soonest 7 = .ok (.ifCond .eq 10, 3) := by decide +kernel
theorem dX11_soonest_17 : decode cX11_soonest 17 = .ok (.bipush (-2), 2) := by decide +kernel
theorem dX11_soonest_19 : decode cX11_soonest 19 = .ok (.ireturn, 1) := by decide +kernel
theorem dX11_quickest_0 : decode cX11_quickest 0 = .ok (.aload_n 0, 1) := by decide +kernel
theorem dX11_quickest_1 : decode cX11_quickest 1 = .ok (.getfield 33, 3) := by decide +kernel
theorem dX11_quickest_4 : decode cX11_quickest 4 = .ok (.invokevirtual 179, 3) := by decide +kernel
theorem dX11_quickest_7 : decode cX11_quickest 7 = .ok (.ifCond .eq 10, 3) := by decide +kernel
theorem dX11_quickest_17 : decode cX11_quickest 17 = .ok (.bipush (-2), 2) := by decide +kernel
theorem dX11_quickest_19 : decode cX11_quickest 19 = .ok (.ireturn, 1) := by decide +kernel
theorem dX11_wider_0 : decode cX11_wider 0 = .ok (.aload_n 0, 1) := by decide +kernel
theorem dX11_wider_1 : decode cX11_wider 1 = .ok (.getfield 33, 3) := by decide +kernel
theorem dX11_wider_4 : decode cX11_wider 4 = .ok (.iload_n 3, 1) := by decide +kernel
theorem dX11_wider_5 : decode cX11_wider 5 = .ok (.invokevirtual 141, 3) := by decide +kernel
theorem dX11_wider_8 : decode cX11_wider 8 = .ok (.ifCond .eq 20, 3) := by decide +kernel
theorem dX11_wider_28 : decode cX11_wider 28 = .ok (.bipush (-2), 2) := by decide +kernel
theorem dX11_wider_30 : decode cX11_wider 30 = .ok (.ireturn, 1) := by decide +kernel
theorem dX11_stand_0 : decode cX11_stand 0 = .ok (.aload_n 0, 1) := by decide +kernel
theorem dX11_stand_1 : decode cX11_stand 1 = .ok (.getfield 33, 3) := by decide +kernel
theorem dX11_stand_4 : decode cX11_stand 4 = .ok (.invokevirtual 179, 3) := by decide +kernel
theorem dX11_stand_7 : decode cX11_stand 7 = .ok (.ifCond .eq 13, 3) := by decide +kernel
theorem dX11_stand_20 : decode cX11_stand 20 = .ok (.bipush (-2), 2) := by decide +kernel
theorem dX11_stand_22 : decode cX11_stand 22 = .ok (.ireturn, 1) := by decide +kernel
theorem dX11_stands_0 : decode cX11_stands 0 = .ok (.aload_n 0, 1) := by decide +kernel
theorem dX11_stands_1 : decode cX11_stands 1 = .ok (.getfield 33, 3) := by decide +kernel
theorem dX11_stands_4 : decode cX11_stands 4 = .ok (.invokevirtual 179, 3) := by decide +kernel
theorem dX11_stands_7 : decode cX11_stands 7 = .ok (.ifCond .eq 13, 3) := by decide +kernel
theorem dX11_stands_20 : decode cX11_stands 20 = .ok (.bipush (-2), 2) := by decide +kernel
theorem dX11_stands_22 : decode cX11_stands 22 = .ok (.ireturn, 1) := by decide +kernel
theorem dX11_needs_0 : decode cX11_needs 0 = .ok (.aload_n 0, 1) := by decide +kernel
theorem dX11_needs_1 : decode cX11_needs 1 = .ok (.getfield 33, 3) := by decide +kernel
theorem dX11_needs_4 : decode cX11_needs 4 = .ok (.invokevirtual 179, 3) := by decide +kernel
theorem dX11_needs_7 : decode cX11_needs 7 = .ok (.ifCond .ne 6, 3) := by decide +kernel
theorem dX11_needs_10 : decode cX11_needs 10 = .ok (.bipush (-2), 2) := by decide +kernel
theorem dX11_needs_12 : decode cX11_needs 12 = .ok (.ireturn, 1) := by decide +kernel
theorem dX11_wind_0 : decode cX11_wind 0 = .ok (.aload_n 0, 1) := by decide +kernel
theorem dX11_wind_1 : decode cX11_wind 1 = .ok (.getfield 33, 3) := by decide +kernel
theorem dX11_wind_4 : decode cX11_wind 4 = .ok (.invokevirtual 179, 3) := by decide +kernel
theorem dX11_wind_7 : decode cX11_wind 7 = .ok (.ifCond .eq 10, 3) := by decide +kernel
theorem dX11_wind_17 : decode cX11_wind 17 = .ok (.bipush (-2), 2) := by decide +kernel
theorem dX11_wind_19 : decode cX11_wind 19 = .ok (.ireturn, 1) := by decide +kernel
theorem dX11_calmest_0 : decode cX11_calmest 0 = .ok (.aload_n 0, 1) := by decide +kernel
theorem dX11_calmest_1 : decode cX11_calmest 1 = .ok (.getfield 33, 3) := by decide +kernel
theorem dX11_calmest_4 : decode cX11_calmest 4 = .ok (.invokevirtual 179, 3) := by decide +kernel
theorem dX11_calmest_7 : decode cX11_calmest 7 = .ok (.ifCond .eq 10, 3) := by decide +kernel
theorem dX11_calmest_17 : decode cX11_calmest 17 = .ok (.bipush (-2), 2) := by decide +kernel
theorem dX11_calmest_19 : decode cX11_calmest 19 = .ok (.ireturn, 1) := by decide +kernel
theorem dX11_seen_0 : decode cX11_seen 0 = .ok (.aload_n 0, 1) := by decide +kernel
theorem dX11_seen_1 : decode cX11_seen 1 = .ok (.iload_n 1, 1) := by decide +kernel
theorem dX11_seen_2 : decode cX11_seen 2 = .ok (.invokevirtual 243, 3) := by decide +kernel
theorem dX11_seen_5 : decode cX11_seen 5 = .ok (.istore_n 2, 1) := by decide +kernel
theorem dX11_seen_6 : decode cX11_seen 6 = .ok (.iload_n 2, 1) := by decide +kernel
theorem dX11_seen_7 : decode cX11_seen 7 = .ok (.ifCond .eq 8, 3) := by decide +kernel
theorem dX11_seen_10 : decode cX11_seen 10 = .ok (.iload_n 2, 1) := by decide +kernel
theorem dX11_seen_11 : decode cX11_seen 11 = .ok (.i2l, 1) := by decide +kernel
theorem dX11_seen_12 : decode cX11_seen 12 = .ok (.goto 16, 3) := by decide +kernel
theorem dX11_seen_28 : decode cX11_seen 28 = .ok (.lreturn, 1) := by decide +kernel
theorem dX11_ask_0 : decode cX11_ask 0 = .ok (.aload_n 0, 1) := by decide +kernel
theorem dX11_ask_1 : decode cX11_ask 1 = .ok (.iload_n 1, 1) := by decide +kernel
theorem dX11_ask_2 : decode cX11_ask 2 = .ok (.invokevirtual 243, 3) := by decide +kernel
theorem dX11_ask_5 : decode cX11_ask 5 = .ok (.istore_n 2, 1) := by decide +kernel
theorem dX11_ask_6 : decode cX11_ask 6 = .ok (.iload_n 2, 1) := by decide +kernel
theorem dX11_ask_7 : decode cX11_ask 7 = .ok (.ifCond .eq 7, 3) := by decide +kernel
theorem dX11_ask_10 : decode cX11_ask 10 = .ok (.iload_n 2, 1) := by decide +kernel
theorem dX11_ask_11 : decode cX11_ask 11 = .ok (.goto 23, 3) := by decide +kernel
theorem dX11_ask_34 : decode cX11_ask 34 = .ok (.ireturn, 1) := by decide +kernel
theorem dX11_leaves_0 : decode cX11_leaves 0 = .ok (.aload_n 0, 1) := by decide +kernel
theorem dX11_leaves_1 : decode cX11_leaves 1 = .ok (.iload_n 1, 1) := by decide +kernel
theorem dX11_leaves_2 : decode cX11_leaves 2 = .ok (.invokevirtual 243, 3) := by decide +kernel
theorem dX11_leaves_5 : decode cX11_leaves 5 = .ok (.istore_n 2, 1) := by decide +kernel
theorem dX11_leaves_6 : decode cX11_leaves 6 = .ok (.iload_n 2, 1) := by decide +kernel
theorem dX11_leaves_7 : decode cX11_leaves 7 = .ok (.ifCond .eq 7, 3) := by decide +kernel
theorem dX11_leaves_10 : decode cX11_leaves 10 = .ok (.iload_n 2, 1) := by decide +kernel
theorem dX11_leaves_11 : decode cX11_leaves 11 = .ok (.goto 23, 3) := by decide +kernel
theorem dX11_leaves_34 : decode cX11_leaves 34 = .ok (.ireturn, 1) := by decide +kernel
theorem dX11_fell_0 : decode cX11_fell 0 = .ok (.aload_n 0, 1) := by decide +kernel
theorem dX11_fell_1 : decode cX11_fell 1 = .ok (.iload_n 1, 1) := by decide +kernel
theorem dX11_fell_2 : decode cX11_fell 2 = .ok (.invokevirtual 257, 3) := by decide +kernel
theorem dX11_fell_5 : decode cX11_fell 5 = .ok (.istore_n 2, 1) := by decide +kernel
theorem dX11_fell_6 : decode cX11_fell 6 = .ok (.iload_n 2, 1) := by decide +kernel
theorem dX11_fell_7 : decode cX11_fell 7 = .ok (.ifCond .eq 8, 3) := by decide +kernel
theorem dX11_fell_10 : decode cX11_fell 10 = .ok (.iload_n 2, 1) := by decide +kernel
theorem dX11_fell_11 : decode cX11_fell 11 = .ok (.i2l, 1) := by decide +kernel
theorem dX11_fell_12 : decode cX11_fell 12 = .ok (.goto 16, 3) := by decide +kernel
theorem dX11_fell_28 : decode cX11_fell 28 = .ok (.lreturn, 1) := by decide +kernel
theorem dX11_many_0 : decode cX11_many 0 = .ok (.aload_n 0, 1) := by decide +kernel
theorem dX11_many_1 : decode cX11_many 1 = .ok (.iload_n 1, 1) := by decide +kernel
theorem dX11_many_2 : decode cX11_many 2 = .ok (.invokevirtual 257, 3) := by decide +kernel
theorem dX11_many_5 : decode cX11_many 5 = .ok (.istore_n 2, 1) := by decide +kernel
theorem dX11_many_6 : decode cX11_many 6 = .ok (.iload_n 2, 1) := by decide +kernel
theorem dX11_many_7 : decode cX11_many 7 = .ok (.ifCond .eq 7, 3) := by decide +kernel
theorem dX11_many_10 : decode cX11_many 10 = .ok (.iload_n 2, 1) := by decide +kernel
theorem dX11_many_11 : decode cX11_many 11 = .ok (.goto 19, 3) := by decide +kernel
theorem dX11_many_30 : decode cX11_many 30 = .ok (.ireturn, 1) := by decide +kernel
theorem dX11_sure_0 : decode cX11_sure 0 = .ok (.aload_n 0, 1) := by decide +kernel
theorem dX11_sure_1 : decode cX11_sure 1 = .ok (.getfield 33, 3) := by decide +kernel
theorem dX11_sure_4 : decode cX11_sure 4 = .ok (.iload_n 2, 1) := by decide +kernel
theorem dX11_sure_5 : decode cX11_sure 5 = .ok (.invokevirtual 141, 3) := by decide +kernel
theorem dX11_sure_8 : decode cX11_sure 8 = .ok (.ifCond .ne 6, 3) := by decide +kernel
theorem dX11_sure_11 : decode cX11_sure 11 = .ok (.bipush (-2), 2) := by decide +kernel
theorem dX11_sure_13 : decode cX11_sure 13 = .ok (.ireturn, 1) := by decide +kernel
theorem dX11_known_0 : decode cX11_known 0 = .ok (.aload_n 0, 1) := by decide +kernel
theorem dX11_known_1 : decode cX11_known 1 = .ok (.getfield 33, 3) := by decide +kernel
theorem dX11_known_4 : decode cX11_known 4 = .ok (.iload_n 1, 1) := by decide +kernel
theorem dX11_known_5 : decode cX11_known 5 = .ok (.iload_n 2, 1) := by decide +kernel
theorem dX11_known_6 : decode cX11_known 6 = .ok (.invokevirtual 156, 3) := by decide +kernel
theorem dX11_known_9 : decode cX11_known 9 = .ok (.ifCond .eq 10, 3) := by decide +kernel
theorem dX11_known_19 : decode cX11_known 19 = .ok (.bipush (-2), 2) := by decide +kernel
theorem dX11_known_21 : decode cX11_known 21 = .ok (.ireturn, 1) := by decide +kernel
theorem dX11_blind_0 : decode cX11_blind 0 = .ok (.aload_n 0, 1) := by decide +kernel
theorem dX11_blind_1 : decode cX11_blind 1 = .ok (.getfield 33, 3) := by decide +kernel
theorem dX11_blind_4 : decode cX11_blind 4 = .ok (.iload_n 1, 1) := by decide +kernel
theorem dX11_blind_5 : decode cX11_blind 5 = .ok (.iload_n 2, 1) := by decide +kernel
theorem dX11_blind_6 : decode cX11_blind 6 = .ok (.invokevirtual 156, 3) := by decide +kernel
theorem dX11_blind_9 : decode cX11_blind 9 = .ok (.ifCond .eq 20, 3) := by decide +kernel
theorem dX11_blind_29 : decode cX11_blind 29 = .ok (.bipush (-2), 2) := by decide +kernel
theorem dX11_blind_31 : decode cX11_blind 31 = .ok (.ireturn, 1) := by decide +kernel
theorem dX11_goes_0 : decode cX11_goes 0 = .ok (.aload_n 0, 1) := by decide +kernel
theorem dX11_goes_1 : decode cX11_goes 1 = .ok (.getfield 33, 3) := by decide +kernel
theorem dX11_goes_4 : decode cX11_goes 4 = .ok (.iload_n 1, 1) := by decide +kernel
theorem dX11_goes_5 : decode cX11_goes 5 = .ok (.iload_n 2, 1) := by decide +kernel
theorem dX11_goes_6 : decode cX11_goes 6 = .ok (.invokevirtual 156, 3) := by decide +kernel
theorem dX11_goes_9 : decode cX11_goes 9 = .ok (.ifCond .eq 20, 3) := by decide +kernel
theorem dX11_goes_29 : decode cX11_goes 29 = .ok (.bipush (-2), 2) := by decide +kernel
theorem dX11_goes_31 : decode cX11_goes 31 = .ok (.ireturn, 1) := by decide +kernel
theorem dX11_worth_0 : decode cX11_worth 0 = .ok (.iload_n 1, 1) := by decide +kernel
theorem dX11_worth_1 : decode cX11_worth 1 = .ok (.invokestatic 226, 3) := by decide +kernel
theorem dX11_worth_4 : decode cX11_worth 4 = .ok (.ifCond .eq 13, 3) := by decide +kernel
theorem dX11_worth_7 : decode cX11_worth 7 = .ok (.aload_n 0, 1) := by decide +kernel
theorem dX11_worth_8 : decode cX11_worth 8 = .ok (.getfield 33, 3) := by decide +kernel
theorem dX11_worth_11 : decode cX11_worth 11 = .ok (.getfield 275, 3) := by decide +kernel
theorem dX11_worth_14 : decode cX11_worth 14 = .ok (.ifCond .ne 6, 3) := by decide +kernel
theorem dX11_worth_17 : decode cX11_worth 17 = .ok (.bipush (-2), 2) := by decide +kernel
theorem dX11_worth_19 : decode cX11_worth 19 = .ok (.ireturn, 1) := by decide +kernel
theorem dX11_lured_0 : decode cX11_lured 0 = .ok (.aload_n 0, 1) := by decide +kernel
theorem dX11_lured_1 : decode cX11_lured 1 = .ok (.getfield 33, 3) := by decide +kernel
theorem dX11_lured_4 : decode cX11_lured 4 = .ok (.invokevirtual 179, 3) := by decide +kernel
theorem dX11_lured_7 : decode cX11_lured 7 = .ok (.ifCond .eq 17, 3) := by decide +kernel
theorem dX11_lured_24 : decode cX11_lured 24 = .ok (.bipush (-2), 2) := by decide +kernel
theorem dX11_lured_26 : decode cX11_lured 26 = .ok (.ireturn, 1) := by decide +kernel
theorem dX11_danger_0 : decode cX11_danger 0 = .ok (.aload_n 0, 1) := by decide +kernel
theorem dX11_danger_1 : decode cX11_danger 1 = .ok (.getfield 33, 3) := by decide +kernel
theorem dX11_danger_4 : decode cX11_danger 4 = .ok (.invokevirtual 179, 3) := by decide +kernel
theorem dX11_danger_7 : decode cX11_danger 7 = .ok (.ifCond .eq 10, 3) := by decide +kernel
theorem dX11_danger_17 : decode cX11_danger 17 = .ok (.bipush (-2), 2) := by decide +kernel
theorem dX11_danger_19 : decode cX11_danger 19 = .ok (.ireturn, 1) := by decide +kernel
theorem dX11_claque_0 : decode cX11_claque 0 = .ok (.aload_n 0, 1) := by decide +kernel
theorem dX11_claque_1 : decode cX11_claque 1 = .ok (.getfield 33, 3) := by decide +kernel
theorem dX11_claque_4 : decode cX11_claque 4 = .ok (.iload_n 1, 1) := by decide +kernel
theorem dX11_claque_5 : decode cX11_claque 5 = .ok (.invokevirtual 141, 3) := by decide +kernel
theorem dX11_claque_8 : decode cX11_claque 8 = .ok (.ifCond .eq 10, 3) := by decide +kernel
theorem dX11_claque_18 : decode cX11_claque 18 = .ok (.bipush (-2), 2) := by decide +kernel
theorem dX11_claque_20 : decode cX11_claque 20 = .ok (.ireturn, 1) := by decide +kernel
theorem dX11_lastly_0 : decode cX11_lastly 0 = .ok (.aload_n 0, 1) := by decide +kernel
theorem dX11_lastly_1 : decode cX11_lastly 1 = .ok (.getfield 33, 3) := by decide +kernel
theorem dX11_lastly_4 : decode cX11_lastly 4 = .ok (.iload_n 1, 1) := by decide +kernel
theorem dX11_lastly_5 : decode cX11_lastly 5 = .ok (.invokevirtual 141, 3) := by decide +kernel
theorem dX11_lastly_8 : decode cX11_lastly 8 = .ok (.ifCond .eq 10, 3) := by decide +kernel
theorem dX11_lastly_18 : decode cX11_lastly 18 = .ok (.bipush (-2), 2) := by decide +kernel
theorem dX11_lastly_20 : decode cX11_lastly 20 = .ok (.ireturn, 1) := by decide +kernel
theorem dX11_screw_0 : decode cX11_screw 0 = .ok (.aload_n 0, 1) := by decide +kernel
theorem dX11_screw_1 : decode cX11_screw 1 = .ok (.getfield 33, 3) := by decide +kernel
theorem dX11_screw_4 : decode cX11_screw 4 = .ok (.iload_n 1, 1) := by decide +kernel
theorem dX11_screw_5 : decode cX11_screw 5 = .ok (.invokevirtual 124, 3) := by decide +kernel
theorem dX11_screw_8 : decode cX11_screw 8 = .ok (.ifCond .eq 13, 3) := by decide +kernel
theorem dX11_screw_21 : decode cX11_screw 21 = .ok (.bipush (-2), 2) := by decide +kernel
theorem dX11_screw_23 : decode cX11_screw 23 = .ok (.ireturn, 1) := by decide +kernel
theorem dX11_king_0 : decode cX11_king 0 = .ok (.iload_n 2, 1) := by decide +kernel
theorem dX11_king_1 : decode cX11_king 1 = .ok (.iconst (-1), 1) := by decide +kernel
theorem dX11_king_2 : decode cX11_king 2 = .ok (.if_icmp .ne 12, 3) := by decide +kernel
theorem dX11_king_5 : decode cX11_king 5 = .ok (.iload_n 3, 1) := by decide +kernel
theorem dX11_king_6 : decode cX11_king 6 = .ok (.iconst (-1), 1) := by decide +kernel
theorem dX11_king_7 : decode cX11_king 7 = .ok (.if_icmp .ne 7, 3) := by decide +kernel
theorem dX11_king_10 : decode cX11_king 10 = .ok (.iconst 1, 1) := by decide +kernel
theorem dX11_king_11 : decode cX11_king 11 = .ok (.goto 4, 3) := by decide +kernel
theorem dX11_king_14 : decode cX11_king 14 = .ok (.iconst 0, 1) := by decide +kernel
theorem dX11_king_15 : decode cX11_king 15 = .ok (.istore 4, 2) := by decide +kernel
theorem dX11_king_17 : decode cX11_king 17 = .ok (.aload_n 0, 1) := by decide +kernel
theorem dX11_king_18 : decode cX11_king 18 = .ok (.getfield 33, 3) := by decide +kernel
theorem dX11_king_21 : decode cX11_king 21 = .ok (.iload_n 1, 1) := by decide +kernel
theorem dX11_king_22 : decode cX11_king 22 = .ok (.invokevirtual 141, 3) := by decide +kernel
theorem dX11_king_25 : decode cX11_king 25 = .ok (.ifCond .eq 27, 3) := by decide +kernel
theorem dX11_king_52 : decode cX11_king 52 = .ok (.bipush (-2), 2) := by decide +kernel
theorem dX11_king_54 : decode cX11_king 54 = .ok (.ireturn, 1) := by decide +kernel
theorem dX11_seats_0 : decode cX11_seats 0 = .ok (.aload_n 0, 1) := by decide +kernel
theorem dX11_seats_1 : decode cX11_seats 1 = .ok (.getfield 33, 3) := by decide +kernel
theorem dX11_seats_4 : decode cX11_seats 4 = .ok (.iload_n 1, 1) := by decide +kernel
theorem dX11_seats_5 : decode cX11_seats 5 = .ok (.iload_n 2, 1) := by decide +kernel
theorem dX11_seats_6 : decode cX11_seats 6 = .ok (.invokevirtual 156, 3) := by decide +kernel
theorem dX11_seats_9 : decode cX11_seats 9 = .ok (.ifCond .eq 12, 3) := by decide +kernel
theorem dX11_seats_21 : decode cX11_seats 21 = .ok (.bipush (-2), 2) := by decide +kernel
theorem dX11_seats_23 : decode cX11_seats 23 = .ok (.ireturn, 1) := by decide +kernel
theorem dX11_undo_0 : decode cX11_undo 0 = .ok (.aload_n 0, 1) := by decide +kernel
theorem dX11_undo_1 : decode cX11_undo 1 = .ok (.getfield 33, 3) := by decide +kernel
theorem dX11_undo_4 : decode cX11_undo 4 = .ok (.invokevirtual 179, 3) := by decide +kernel
theorem dX11_undo_7 : decode cX11_undo 7 = .ok (.ifCond .ne 6, 3) := by decide +kernel
theorem dX11_undo_10 : decode cX11_undo 10 = .ok (.bipush (-2), 2) := by decide +kernel
theorem dX11_undo_12 : decode cX11_undo 12 = .ok (.ireturn, 1) := by decide +kernel
theorem dX11_drawn_0 : decode cX11_drawn 0 = .ok (.aload_n 0, 1) := by decide +kernel
theorem dX11_drawn_1 : decode cX11_drawn 1 = .ok (.iload_n 1, 1) := by decide +kernel
theorem dX11_drawn_2 : decode cX11_drawn 2 = .ok (.iload_n 2, 1) := by decide +kernel
theorem dX11_drawn_3 : decode cX11_drawn 3 = .ok (.invokevirtual 318, 3) := by decide +kernel
theorem dX11_drawn_6 : decode cX11_drawn 6 = .ok (.ifCond .eq 12, 3) := by decide +kernel
theorem dX11_drawn_18 : decode cX11_drawn 18 = .ok (.bipush (-2), 2) := by decide +kernel
theorem dX11_drawn_20 : decode cX11_drawn 20 = .ok (.ireturn, 1) := by decide +kernel
theorem dX11_lucky_0 : decode cX11_lucky 0 = .ok (.aload_n 0, 1) := by decide +kernel
theorem dX11_lucky_1 : decode cX11_lucky 1 = .ok (.iload_n 1, 1) := by decide +kernel
theorem dX11_lucky_2 : decode cX11_lucky 2 = .ok (.iload_n 3, 1) := by decide +kernel
theorem dX11_lucky_3 : decode cX11_lucky 3 = .ok (.invokevirtual 318, 3) := by decide +kernel
theorem dX11_lucky_6 : decode cX11_lucky 6 = .ok (.ifCond .eq 14, 3) := by decide +kernel
theorem dX11_lucky_20 : decode cX11_lucky 20 = .ok (.bipush (-2), 2) := by decide +kernel
theorem dX11_lucky_22 : decode cX11_lucky 22 = .ok (.ireturn, 1) := by decide +kernel
theorem dX10_hasRoom_0 : decode cX10_hasRoom 0 = .ok (.aload_n 0, 1) := by decide +kernel
theorem dX10_hasRoom_1 : decode cX10_hasRoom 1 = .ok (.getfield 15, 3) := by decide +kernel
theorem dX10_hasRoom_4 : decode cX10_hasRoom 4 = .ok (.bipush 20, 2) := by decide +kernel
theorem dX10_hasRoom_6 : decode cX10_hasRoom 6 = .ok (.iadd, 1) := by decide +kernel
theorem dX10_hasRoom_7 : decode cX10_hasRoom 7 = .ok (.sipush 1400, 3) := by decide +kernel
theorem dX10_hasRoom_10 : decode cX10_hasRoom 10 = .ok (.if_icmp .gt 7, 3) := by decide +kernel
theorem dX10_hasRoom_13 : decode cX10_hasRoom 13 = .ok (.iconst 1, 1) := by decide +kernel
theorem dX10_hasRoom_14 : decode cX10_hasRoom 14 = .ok (.goto 4, 3) := by decide +kernel
theorem dX10_hasRoom_18 : decode cX10_hasRoom 18 = .ok (.ireturn, 1) := by decide +kernel
theorem dX10_add_0 : decode cX10_add 0 = .ok (.bipush 24, 2) := by decide +kernel
theorem dX10_add_2 : decode cX10_add 2 = .ok (.istore_n 2, 1) := by decide +kernel
theorem dX10_add_3 : decode cX10_add 3 = .ok (.iload_n 2, 1) := by decide +kernel
theorem dX10_add_4 : decode cX10_add 4 = .ok (.ifCond .lt 42, 3) := by decide +kernel
theorem dX10_add_7 : decode cX10_add 7 = .ok (.aload_n 0, 1) := by decide +kernel
theorem dX10_add_8 : decode cX10_add 8 = .ok (.getfield 15, 3) := by decide +kernel
theorem dX10_add_11 : decode cX10_add 11 = .ok (.sipush 1400, 3) := by decide +kernel
theorem dX10_add_14 : decode cX10_add 14 = .ok (.if_icmp .ge 32, 3) := by decide +kernel
theorem dX10_add_17 : decode cX10_add 17 = .ok (.aload_n 0, 1) := by decide +kernel
theorem dX10_add_18 : decode cX10_add 18 = .ok (.getfield 9, 3) := by decide +kernel
theorem dX10_add_21 : decode cX10_add 21 = .ok (.aload_n 0, 1) := by decide +kernel
theorem dX10_add_22 : decode cX10_add 22 = .ok (.getfield 15, 3) := by decide +kernel
theorem dX10_add_25 : decode cX10_add 25 = .ok (.iload_n 1, 1) := by decide +kernel
theorem dX10_add_26 : decode cX10_add 26 = .ok (.iload_n 2, 1) := by decide +kernel
theorem dX10_add_27 : decode cX10_add 27 = .ok (.ishr, 1) := by decide +kernel
theorem dX10_add_28 : decode cX10_add 28 = .ok (.i2b, 1) := by decide +kernel
theorem dX10_add_29 : decode cX10_add 29 = .ok (.bastore, 1) := by decide +kernel
theorem dX10_add_30 : decode cX10_add 30 = .ok (.aload_n 0, 1) := by decide +kernel
theorem dX10_add_31 : decode cX10_add 31 = .ok (.dup, 1) := by decide +kernel
theorem dX10_add_32 : decode cX10_add 32 = .ok (.getfield 15, 3) := by decide +kernel
theorem dX10_add_35 : decode cX10_add 35 = .ok (.iconst 1, 1) := by decide +kernel
theorem dX10_add_36 : decode cX10_add 36 = .ok (.iadd, 1) := by decide +kernel
theorem dX10_add_37 : decode cX10_add 37 = .ok (.putfield 15, 3) := by decide +kernel
theorem dX10_add_40 : decode cX10_add 40 = .ok (.iinc 2 (-8), 3) := by decide +kernel
theorem dX10_add_43 : decode cX10_add 43 = .ok (.goto (-40), 3) := by decide +kernel
theorem dX10_add_46 : decode cX10_add 46 = .ok (.return_, 1) := by decide +kernel
theorem dX11_feed_0 : decode cX11_feed 0 = .ok (.aload_n 0, 1) := by decide +kernel
theorem dX11_feed_1 : decode cX11_feed 1 = .ok (.getfield 10, 3) := by decide +kernel
theorem dX11_feed_4 : decode cX11_feed 4 = .ok (.invokevirtual 96, 3) := by decide +kernel
theorem dX11_feed_7 : decode cX11_feed 7 = .ok (.ifCond .ne 5, 3) := by decide +kernel
theorem dX11_feed_12 : decode cX11_feed 12 = .ok (.aload_n 0, 1) := by decide +kernel
theorem dX11_feed_13 : decode cX11_feed 13 = .ok (.getfield 10, 3) := by decide +kernel
theorem dX11_feed_16 : decode cX11_feed 16 = .ok (.iload_n 1, 1) := by decide +kernel
theorem dX11_feed_17 : decode cX11_feed 17 = .ok (.invokevirtual 100, 3) := by decide +kernel
theorem dX11_feed_20 : decode cX11_feed 20 = .ok (.aload_n 0, 1) := by decide +kernel
theorem dX11_feed_21 : decode cX11_feed 21 = .ok (.getfield 10, 3) := by decide +kernel
theorem dX11_feed_24 : decode cX11_feed 24 = .ok (.iload_n 2, 1) := by decide +kernel
theorem dX11_feed_25 : decode cX11_feed 25 = .ok (.invokevirtual 100, 3) := by decide +kernel
theorem dX11_feed_28 : decode cX11_feed 28 = .ok (.aload_n 0, 1) := by decide +kernel
theorem dX11_feed_29 : decode cX11_feed 29 = .ok (.getfield 10, 3) := by decide +kernel
theorem dX11_feed_32 : decode cX11_feed 32 = .ok (.iload_n 3, 1) := by decide +kernel
theorem dX11_feed_33 : decode cX11_feed 33 = .ok (.invokevirtual 100, 3) := by decide +kernel
theorem dX11_feed_36 : decode cX11_feed 36 = .ok (.aload_n 0, 1) := by decide +kernel
theorem dX11_feed_37 : decode cX11_feed 37 = .ok (.getfield 10, 3) := by decide +kernel
theorem dX11_feed_40 : decode cX11_feed 40 = .ok (.iload 4, 2) := by decide +kernel
theorem dX11_feed_42 : decode cX11_feed 42 = .ok (.invokevirtual 100, 3) := by decide +kernel
theorem dX11_feed_45 : decode cX11_feed 45 = .ok (.aload_n 0, 1) := by decide +kernel
theorem dX11_feed_46 : decode cX11_feed 46 = .ok (.getfield 10, 3) := by decide +kernel
theorem dX11_feed_49 : decode cX11_feed 49 = .ok (.iload 5, 2) := by decide +kernel
theorem dX11_feed_51 : decode cX11_feed 51 = .ok (.invokevirtual 100, 3) := by decide +kernel
theorem dX11_feed_54 : decode cX11_feed 54 = .ok (.aload_n 0, 1) := by decide +kernel
theorem dX11_feed_55 : decode cX11_feed 55 = .ok (.getfield 10, 3) := by decide +kernel
theorem dX11_feed_58 : decode cX11_feed 58 = .ok (.getfield 104, 3) := by decide +kernel
theorem dX11_feed_61 : decode cX11_feed 61 = .ok (.ireturn, 1) := by decide +kernel
theorem dX11_end_0 : decode cX11_end 0 = .ok (.iload_n 1, 1) := by decide +kernel
theorem dX11_end_1 : decode cX11_end 1 = .ok (.ifCond .lt 14, 3) := by decide +kernel
theorem dX11_end_4 : decode cX11_end 4 = .ok (.iload_n 1, 1) := by decide +kernel
theorem dX11_end_5 : decode cX11_end 5 = .ok (.aload_n 0, 1) := by decide +kernel
theorem dX11_end_6 : decode cX11_end 6 = .ok (.getfield 10, 3) := by decide +kernel
theorem dX11_end_9 : decode cX11_end 9 = .ok (.getfield 104, 3) := by decide +kernel
theorem dX11_end_12 : decode cX11_end 12 = .ok (.if_icmp .le 5, 3) := by decide +kernel
theorem dX11_end_15 : decode cX11_end 15 = .ok (.iconst (-1), 1) := by decide +kernel
theorem dX11_end_16 : decode cX11_end 16 = .ok (.ireturn, 1) := by decide +kernel
theorem dX11_end_17 : decode cX11_end 17 = .ok (.aload_n 0, 1) := by decide +kernel
theorem dX11_end_18 : decode cX11_end 18 = .ok (.getfield 10, 3) := by decide +kernel
theorem dX11_end_21 : decode cX11_end 21 = .ok (.iload_n 1, 1) := by decide +kernel
theorem dX11_end_22 : decode cX11_end 22 = .ok (.putfield 104, 3) := by decide +kernel
theorem dX11_end_25 : decode cX11_end 25 = .ok (.iload_n 1, 1) := by decide +kernel
theorem dX11_end_26 : decode cX11_end 26 = .ok (.ireturn, 1) := by decide +kernel
theorem dX11_fault_0 : decode cX11_fault 0 = .ok (.iload_n 1, 1) := by decide +kernel
theorem dX11_fault_1 : decode cX11_fault 1 = .ok (.ifCond .ne 11, 3) := by decide +kernel
theorem dX11_fault_4 : decode cX11_fault 4 = .ok (.aload_n 0, 1) := by decide +kernel
theorem dX11_fault_5 : decode cX11_fault 5 = .ok (.getfield 46, 3) := by decide +kernel
theorem dX11_fault_8 : decode cX11_fault 8 = .ok (.getfield 118, 3) := by decide +kernel
theorem dX11_fault_11 : decode cX11_fault 11 = .ok (.ireturn, 1) := by decide +kernel
theorem dX11_fault_12 : decode cX11_fault 12 = .ok (.iload_n 1, 1) := by decide +kernel
theorem dX11_fault_13 : decode cX11_fault 13 = .ok (.iconst 1, 1) := by decide +kernel
theorem dX11_fault_14 : decode cX11_fault 14 = .ok (.if_icmp .ne 13, 3) := by decide +kernel
theorem dX11_fault_17 : decode cX11_fault 17 = .ok (.aload_n 0, 1) := by decide +kernel
theorem dX11_fault_18 : decode cX11_fault 18 = .ok (.getfield 46, 3) := by decide +kernel
theorem dX11_fault_21 : decode cX11_fault 21 = .ok (.getfield 121, 3) := by decide +kernel
theorem dX11_fault_24 : decode cX11_fault 24 = .ok (.goto 4, 3) := by decide +kernel
theorem dX11_fault_27 : decode cX11_fault 27 = .ok (.iconst (-1), 1) := by decide +kernel
theorem dX11_fault_28 : decode cX11_fault 28 = .ok (.ireturn, 1) := by decide +kernel
theorem dX5_clear_0 : decode cX5_clear 0 = .ok (.aload_n 0, 1) := by decide +kernel
theorem dX5_clear_1 : decode cX5_clear 1 = .ok (.iconst 0, 1) := by decide +kernel
theorem dX5_clear_2 : decode cX5_clear 2 = .ok (.putfield 43, 3) := by decide +kernel
theorem dX5_clear_5 : decode cX5_clear 5 = .ok (.aload_n 0, 1) := by decide +kernel
theorem dX5_clear_6 : decode cX5_clear 6 = .ok (.iconst 0, 1) := by decide +kernel
theorem dX5_clear_7 : decode cX5_clear 7 = .ok (.putfield 47, 3) := by decide +kernel
theorem dX5_clear_10 : decode cX5_clear 10 = .ok (.aload_n 0, 1) := by decide +kernel
theorem dX5_clear_11 : decode cX5_clear 11 = .ok (.iconst 0, 1) := by decide +kernel
theorem dX5_clear_12 : decode cX5_clear 12 = .ok (.putfield 50, 3) := by decide +kernel
theorem dX5_clear_15 : decode cX5_clear 15 = .ok (.aload_n 0, 1) := by decide +kernel
theorem dX5_clear_16 : decode cX5_clear 16 = .ok (.iconst 0, 1) := by decide +kernel
theorem dX5_clear_17 : decode cX5_clear 17 = .ok (.putfield 53, 3) := by decide +kernel
theorem dX5_clear_20 : decode cX5_clear 20 = .ok (.aload_n 0, 1) := by decide +kernel
theorem dX5_clear_21 : decode cX5_clear 21 = .ok (.iconst 0, 1) := by decide +kernel
theorem dX5_clear_22 : decode cX5_clear 22 = .ok (.putfield 56, 3) := by decide +kernel
theorem dX5_clear_25 : decode cX5_clear 25 = .ok (.aload_n 0, 1) := by decide +kernel
theorem dX5_clear_26 : decode cX5_clear 26 = .ok (.iconst 0, 1) := by decide +kernel
theorem dX5_clear_27 : decode cX5_clear 27 = .ok (.putfield 59, 3) := by decide +kernel
theorem dX5_clear_30 : decode cX5_clear 30 = .ok (.aload_n 0, 1) := by decide +kernel
theorem dX5_clear_31 : decode cX5_clear 31 = .ok (.lconst 0, 1) := by decide +kernel
theorem dX5_clear_32 : decode cX5_clear 32 = .ok (.putfield 62, 3) := by decide +kernel
theorem dX5_clear_35 : decode cX5_clear 35 = .ok (.aload_n 0, 1) := by decide +kernel
theorem dX5_clear_36 : decode cX5_clear 36 = .ok (.getfield 39, 3) := by decide +kernel
theorem dX5_clear_39 : decode cX5_clear 39 = .ok (.iconst 0, 1) := by decide +kernel
theorem dX5_clear_40 : decode cX5_clear 40 = .ok (.putfield 66, 3) := by decide +kernel
theorem dX5_clear_43 : decode cX5_clear 43 = .ok (.return_, 1) := by decide +kernel
theorem dX10_byteAt_0 : decode cX10_byteAt 0 = .ok (.iload_n 1, 1) := by decide +kernel
theorem dX10_byteAt_1 : decode cX10_byteAt 1 = .ok (.ifCond .lt 31, 3) := by decide +kernel
theorem dX10_byteAt_4 : decode cX10_byteAt 4 = .ok (.iload_n 1, 1) := by decide +kernel
theorem dX10_byteAt_5 : decode cX10_byteAt 5 = .ok (.aload_n 0, 1) := by decide +kernel
theorem dX10_byteAt_6 : decode cX10_byteAt 6 = .ok (.getfield 15, 3) := by decide +kernel
theorem dX10_byteAt_9 : decode cX10_byteAt 9 = .ok (.if_icmp .ge 23, 3) := by decide +kernel
theorem dX10_byteAt_32 : decode cX10_byteAt 32 = .ok (.iconst (-1), 1) := by decide +kernel
theorem dX10_byteAt_33 : decode cX10_byteAt 33 = .ok (.ireturn, 1) := by decide +kernel
theorem dX6_advance_0 : decode cX6_advance 0 = .ok (.aload_n 0, 1) := by decide +kernel
theorem dX6_advance_1 : decode cX6_advance 1 = .ok (.getfield 15, 3) := by decide +kernel
theorem dX6_advance_4 : decode cX6_advance 4 = .ok (.aload_n 0, 1) := by decide +kernel
theorem dX6_advance_5 : decode cX6_advance 5 = .ok (.getfield 31, 3) := by decide +kernel
theorem dX6_advance_8 : decode cX6_advance 8 = .ok (.invokevirtual 148, 3) := by decide +kernel
theorem dX6_advance_11 : decode cX6_advance 11 = .ok (.istore_n 1, 1) := by decide +kernel
theorem dX6_advance_12 : decode cX6_advance 12 = .ok (.aload_n 0, 1) := by decide +kernel
theorem dX6_advance_13 : decode cX6_advance 13 = .ok (.getfield 31, 3) := by decide +kernel
theorem dX6_advance_16 : decode cX6_advance 16 = .ok (.sipush 1400, 3) := by decide +kernel
theorem dX6_advance_19 : decode cX6_advance 19 = .ok (.if_icmp .ge 40, 3) := by decide +kernel
theorem dX6_advance_22 : decode cX6_advance 22 = .ok (.iload_n 1, 1) := by decide +kernel
theorem dX6_advance_23 : decode cX6_advance 23 = .ok (.bipush 32, 2) := by decide +kernel
theorem dX6_advance_25 : decode cX6_advance 25 = .ok (.if_icmp .eq 9, 3) := by decide +kernel
theorem dX6_advance_28 : decode cX6_advance 28 = .ok (.iload_n 1, 1) := by decide +kernel
theorem dX6_advance_29 : decode cX6_advance 29 = .ok (.bipush 10, 2) := by decide +kernel
theorem dX6_advance_31 : decode cX6_advance 31 = .ok (.if_icmp .ne 28, 3) := by decide +kernel
theorem dX6_advance_59 : decode cX6_advance 59 = .ok (.aload_n 0, 1) := by decide +kernel
theorem dX6_advance_60 : decode cX6_advance 60 = .ok (.aload_n 0, 1) := by decide +kernel
theorem dX6_advance_61 : decode cX6_advance 61 = .ok (.getfield 31, 3) := by decide +kernel
theorem dX6_advance_64 : decode cX6_advance 64 = .ok (.putfield 84, 3) := by decide +kernel
theorem dX6_advance_67 : decode cX6_advance 67 = .ok (.iload_n 1, 1) := by decide +kernel
theorem dX6_advance_68 : decode cX6_advance 68 = .ok (.iconst (-1), 1) := by decide +kernel
theorem dX6_advance_69 : decode cX6_advance 69 = .ok (.if_icmp .ne 11, 3) := by decide +kernel
theorem dX6_advance_72 : decode cX6_advance 72 = .ok (.aload_n 0, 1) := by decide +kernel
theorem dX6_advance_73 : decode cX6_advance 73 = .ok (.iconst (-1), 1) := by decide +kernel
theorem dX6_advance_74 : decode cX6_advance 74 = .ok (.putfield 37, 3) := by decide +kernel
theorem dX6_advance_77 : decode cX6_advance 77 = .ok (.goto 68, 3) := by decide +kernel
theorem dX6_advance_145 : decode cX6_advance 145 = .ok (.return_, 1) := by decide +kernel
theorem dX6_tell_0 : decode cX6_tell 0 = .ok (.aload_n 0, 1) := by decide +kernel
theorem dX6_tell_1 : decode cX6_tell 1 = .ok (.aload_n 1, 1) := by decide +kernel
theorem dX6_tell_2 : decode cX6_tell 2 = .ok (.putfield 19, 3) := by decide +kernel
theorem dX6_tell_5 : decode cX6_tell 5 = .ok (.aload_n 0, 1) := by decide +kernel
theorem dX6_tell_6 : decode cX6_tell 6 = .ok (.getfield 19, 3) := by decide +kernel
theorem dX6_tell_9 : decode cX6_tell 9 = .ok (.invokevirtual 23, 3) := by decide +kernel
theorem dX6_tell_12 : decode cX6_tell 12 = .ok (.aload_n 0, 1) := by decide +kernel
theorem dX6_tell_13 : decode cX6_tell 13 = .ok (.iconst 0, 1) := by decide +kernel
theorem dX6_tell_14 : decode cX6_tell 14 = .ok (.putfield 28, 3) := by decide +kernel
theorem dX6_tell_17 : decode cX6_tell 17 = .ok (.aload_n 0, 1) := by decide +kernel
theorem dX6_tell_18 : decode cX6_tell 18 = .ok (.iconst (-1), 1) := by decide +kernel
theorem dX6_tell_19 : decode cX6_tell 19 = .ok (.putfield 9, 3) := by decide +kernel
theorem dX6_tell_22 : decode cX6_tell 22 = .ok (.aload_n 0, 1) := by decide +kernel
theorem dX6_tell_23 : decode cX6_tell 23 = .ok (.iconst 0, 1) := by decide +kernel
theorem dX6_tell_24 : decode cX6_tell 24 = .ok (.putfield 31, 3) := by decide +kernel
theorem dX6_tell_27 : decode cX6_tell 27 = .ok (.aload_n 0, 1) := by decide +kernel
theorem dX6_tell_28 : decode cX6_tell 28 = .ok (.invokevirtual 34, 3) := by decide +kernel
theorem dX6_tell_31 : decode cX6_tell 31 = .ok (.iconst 0, 1) := by decide +kernel
theorem dX6_tell_32 : decode cX6_tell 32 = .ok (.istore_n 2, 1) := by decide +kernel
theorem dX6_tell_33 : decode cX6_tell 33 = .ok (.iload_n 2, 1) := by decide +kernel
theorem dX6_tell_34 : decode cX6_tell 34 = .ok (.sipush 1400, 3) := by decide +kernel
theorem dX6_tell_37 : decode cX6_tell 37 = .ok (.if_icmp .gt 107, 3) := by decide +kernel
theorem dX6_tell_40 : decode cX6_tell 40 = .ok (.aload_n 0, 1) := by decide +kernel
theorem dX6_tell_41 : decode cX6_tell 41 = .ok (.getfield 37, 3) := by decide +kernel
theorem dX6_tell_44 : decode cX6_tell 44 = .ok (.iconst (-1), 1) := by decide +kernel
theorem dX6_tell_45 : decode cX6_tell 45 = .ok (.if_icmp .eq 99, 3) := by decide +kernel
theorem dX6_tell_144 : decode cX6_tell 144 = .ok (.aload_n 0, 1) := by decide +kernel
theorem dX6_tell_145 : decode cX6_tell 145 = .ok (.getfield 28, 3) := by decide +kernel
theorem dX6_tell_148 : decode cX6_tell 148 = .ok (.ifCond .ne 7, 3) := by decide +kernel
theorem dX6_tell_151 : decode cX6_tell 151 = .ok (.iconst 1, 1) := by decide +kernel
theorem dX6_tell_152 : decode cX6_tell 152 = .ok (.goto 4, 3) := by decide +kernel
theorem dX6_tell_156 : decode cX6_tell 156 = .ok (.ireturn, 1) := by decide +kernel
theorem dX0_turnScrews_0 : decode cX0_turnScrews 0 = .ok (.iconst 0, 1) := by decide +kernel
theorem dX0_turnScrews_1 : decode cX0_turnScrews 1 = .ok (.istore_n 2, 1) := by decide +kernel
theorem dX0_turnScrews_2 : decode cX0_turnScrews 2 = .ok (.iconst 0, 1) := by decide +kernel
theorem dX0_turnScrews_3 : decode cX0_turnScrews 3 = .ok (.istore_n 3, 1) := by decide +kernel
theorem dX0_turnScrews_4 : decode cX0_turnScrews 4 = .ok (.iload_n 3, 1) := by decide +kernel
theorem dX0_turnScrews_5 : decode cX0_turnScrews 5 = .ok (.aload_n 0, 1) := by decide +kernel
theorem dX0_turnScrews_6 : decode cX0_turnScrews 6 = .ok (.getfield 25, 3) := by decide +kernel
theorem dX0_turnScrews_9 : decode cX0_turnScrews 9 = .ok (.getfield 29, 3) := by decide +kernel
theorem dX0_turnScrews_12 : decode cX0_turnScrews 12 = .ok (.if_icmp .ge 30, 3) := by decide +kernel
theorem dX0_turnScrews_42 : decode cX0_turnScrews 42 = .ok (.iconst 0, 1) := by decide +kernel
theorem dX0_turnScrews_43 : decode cX0_turnScrews 43 = .ok (.istore_n 3, 1) := by decide +kernel
theorem dX0_turnScrews_44 : decode cX0_turnScrews 44 = .ok (.iload_n 3, 1) := by decide +kernel
theorem dX0_turnScrews_45 : decode cX0_turnScrews 45 = .ok (.aload_n 0, 1) := by decide +kernel
theorem dX0_turnScrews_46 : decode cX0_turnScrews 46 = .ok (.getfield 25, 3) := by decide +kernel
theorem dX0_turnScrews_49 : decode cX0_turnScrews 49 = .ok (.getfield 29, 3) := by decide +kernel
theorem dX0_turnScrews_52 : decode cX0_turnScrews 52 = .ok (.if_icmp .ge 60, 3) := by decide +kernel
theorem dX0_turnScrews_112 : decode cX0_turnScrews 112 = .ok (.return_, 1) := by decide +kernel
theorem dX0_play_0 : decode cX0_play 0 = .ok (.aload_n 0, 1) := by decide +kernel
theorem dX0_play_1 : decode cX0_play 1 = .ok (.aload_n 1, 1) := by decide +kernel
theorem dX0_play_2 : decode cX0_play 2 = .ok (.putfield 25, 3) := by decide +kernel
theorem dX0_play_5 : decode cX0_play 5 = .ok (.iconst 0, 1) := by decide +kernel
theorem dX0_play_6 : decode cX0_play 6 = .ok (.istore_n 2, 1) := by decide +kernel
theorem dX0_play_7 : decode cX0_play 7 = .ok (.iload_n 2, 1) := by decide +kernel
theorem dX0_play_8 : decode cX0_play 8 = .ok (.aload_n 0, 1) := by decide +kernel
theorem dX0_play_9 : decode cX0_play 9 = .ok (.getfield 25, 3) := by decide +kernel
theorem dX0_play_12 : decode cX0_play 12 = .ok (.getfield 29, 3) := by decide +kernel
theorem dX0_play_15 : decode cX0_play 15 = .ok (.if_icmp .ge 30, 3) := by decide +kernel
theorem dX0_play_45 : decode cX0_play 45 = .ok (.iconst 0, 1) := by decide +kernel
theorem dX0_play_46 : decode cX0_play 46 = .ok (.istore_n 2, 1) := by decide +kernel
theorem dX0_play_47 : decode cX0_play 47 = .ok (.iload_n 2, 1) := by decide +kernel
theorem dX0_play_48 : decode cX0_play 48 = .ok (.iconst 1, 1) := by decide +kernel
theorem dX0_play_49 : decode cX0_play 49 = .ok (.iadd, 1) := by decide +kernel
theorem dX0_play_50 : decode cX0_play 50 = .ok (.bipush 60, 2) := by decide +kernel
theorem dX0_play_52 : decode cX0_play 52 = .ok (.if_icmp .ge 14, 3) := by decide +kernel
theorem dX0_play_55 : decode cX0_play 55 = .ok (.aload_n 0, 1) := by decide +kernel
theorem dX0_play_56 : decode cX0_play 56 = .ok (.iload_n 2, 1) := by decide +kernel
theorem dX0_play_57 : decode cX0_play 57 = .ok (.invokevirtual 38, 3) := by decide +kernel
theorem dX0_play_60 : decode cX0_play 60 = .ok (.iinc 2 1, 3) := by decide +kernel
theorem dX0_play_63 : decode cX0_play 63 = .ok (.goto (-16), 3) := by decide +kernel
theorem dX0_play_66 : decode cX0_play 66 = .ok (.iconst 0, 1) := by decide +kernel
theorem dX0_play_67 : decode cX0_play 67 = .ok (.istore_n 2, 1) := by decide +kernel
theorem dX0_play_68 : decode cX0_play 68 = .ok (.iload_n 2, 1) := by decide +kernel
theorem dX0_play_69 : decode cX0_play 69 = .ok (.bipush 60, 2) := by decide +kernel
theorem dX0_play_71 : decode cX0_play 71 = .ok (.if_icmp .ge 16, 3) := by decide +kernel
theorem dX0_play_74 : decode cX0_play 74 = .ok (.aload_n 0, 1) := by decide +kernel
theorem dX0_play_75 : decode cX0_play 75 = .ok (.getfield 15, 3) := by decide +kernel
theorem dX0_play_78 : decode cX0_play 78 = .ok (.iload_n 2, 1) := by decide +kernel
theorem dX0_play_79 : decode cX0_play 79 = .ok (.iconst 0, 1) := by decide +kernel
theorem dX0_play_80 : decode cX0_play 80 = .ok (.bastore, 1) := by decide +kernel
theorem dX0_play_81 : decode cX0_play 81 = .ok (.iinc 2 1, 3) := by decide +kernel
theorem dX0_play_84 : decode cX0_play 84 = .ok (.goto (-16), 3) := by decide +kernel
theorem dX0_play_87 : decode cX0_play 87 = .ok (.return_, 1) := by decide +kernel
theorem dX11_hall_0 : decode cX11_hall 0 = .ok (.aload_n 0, 1) := by decide +kernel
theorem dX11_hall_1 : decode cX11_hall 1 = .ok (.getfield 46, 3) := by decide +kernel
theorem dX11_hall_4 : decode cX11_hall 4 = .ok (.aload_n 0, 1) := by decide +kernel
theorem dX11_hall_5 : decode cX11_hall 5 = .ok (.getfield 37, 3) := by decide +kernel
theorem dX11_hall_8 : decode cX11_hall 8 = .ok (.invokevirtual 108, 3) := by decide +kernel
theorem dX11_hall_11 : decode cX11_hall 11 = .ok (.ifCond .ne 6, 3) := by decide +kernel
theorem dX11_hall_17 : decode cX11_hall 17 = .ok (.aload_n 0, 1) := by decide +kernel
theorem dX11_hall_18 : decode cX11_hall 18 = .ok (.getfield 10, 3) := by decide +kernel
theorem dX11_hall_21 : decode cX11_hall 21 = .ok (.iconst 0, 1) := by decide +kernel
theorem dX11_hall_22 : decode cX11_hall 22 = .ok (.putfield 104, 3) := by decide +kernel
theorem dX11_hall_25 : decode cX11_hall 25 = .ok (.aload_n 0, 1) := by decide +kernel
theorem dX11_hall_26 : decode cX11_hall 26 = .ok (.getfield 37, 3) := by decide +kernel
theorem dX11_hall_29 : decode cX11_hall 29 = .ok (.astore_n 1, 1) := by decide +kernel
theorem dX11_hall_30 : decode cX11_hall 30 = .ok (.aload_n 0, 1) := by decide +kernel
theorem dX11_hall_31 : decode cX11_hall 31 = .ok (.aload_n 0, 1) := by decide +kernel
theorem dX11_hall_32 : decode cX11_hall 32 = .ok (.getfield 33, 3) := by decide +kernel
theorem dX11_hall_35 : decode cX11_hall 35 = .ok (.putfield 37, 3) := by decide +kernel
theorem dX11_hall_38 : decode cX11_hall 38 = .ok (.aload_n 0, 1) := by decide +kernel
theorem dX11_hall_39 : decode cX11_hall 39 = .ok (.aload_n 1, 1) := by decide +kernel
theorem dX11_hall_40 : decode cX11_hall 40 = .ok (.putfield 33, 3) := by decide +kernel
theorem dX11_hall_43 : decode cX11_hall 43 = .ok (.aload_n 0, 1) := by decide +kernel
theorem dX11_hall_44 : decode cX11_hall 44 = .ok (.getfield 55, 3) := by decide +kernel
theorem dX11_hall_47 : decode cX11_hall 47 = .ok (.aload_n 0, 1) := by decide +kernel
theorem dX11_hall_48 : decode cX11_hall 48 = .ok (.getfield 33, 3) := by decide +kernel
theorem dX11_hall_51 : decode cX11_hall 51 = .ok (.invokevirtual 112, 3) := by decide +kernel
theorem dX11_hall_54 : decode cX11_hall 54 = .ok (.aload_n 0, 1) := by decide +kernel
theorem dX11_hall_55 : decode cX11_hall 55 = .ok (.getfield 33, 3) := by decide +kernel
theorem dX11_hall_58 : decode cX11_hall 58 = .ok (.getfield 115, 3) := by decide +kernel
theorem dX11_hall_61 : decode cX11_hall 61 = .ok (.ireturn, 1) := by decide +kernel
theorem dX8_hasRow_0 : decode cX8_hasRow 0 = .ok (.aload_n 0, 1) := by decide +kernel
theorem dX8_hasRow_1 : decode cX8_hasRow 1 = .ok (.getfield 15, 3) := by decide +kernel
theorem dX8_hasRow_4 : decode cX8_hasRow 4 = .ok (.iconst (-1), 1) := by decide +kernel
theorem dX8_hasRow_5 : decode cX8_hasRow 5 = .ok (.if_icmp .eq 7, 3) := by decide +kernel
theorem dX8_hasRow_12 : decode cX8_hasRow 12 = .ok (.iconst 0, 1) := by decide +kernel
theorem dX8_hasRow_13 : decode cX8_hasRow 13 = .ok (.ireturn, 1) := by decide +kernel
theorem dJ13_bitCount_95d88_0 : decode cJ13_bitCount_95d88 0 = .ok (.lload_n 0, 1) := by decide +kernel
theorem dJ13_bitCount_95d88_1 : decode cJ13_bitCount_95d88 1 = .ok (.lload_n 0, 1) := by decide +kernel
theorem dJ13_bitCount_95d88_2 : decode cJ13_bitCount_95d88 2 = .ok (.iconst 1, 1) := by decide +kernel
theorem dJ13_bitCount_95d88_3 : decode cJ13_bitCount_95d88 3 = .ok (.lushr, 1) := by decide +kernel
theorem dJ13_bitCount_95d88_4 : decode cJ13_bitCount_95d88 4 = .ok (.ldc2_w 314, 3) := by decide +kernel
theorem dJ13_bitCount_95d88_7 : decode cJ13_bitCount_95d88 7 = .ok (.land, 1) := by decide +kernel
theorem dJ13_bitCount_95d88_8 : decode cJ13_bitCount_95d88 8 = .ok (.lsub, 1) := by decide +kernel
theorem dJ13_bitCount_95d88_9 : decode cJ13_bitCount_95d88 9 = .ok (.lstore_n 0, 1) := by decide +kernel
theorem dJ13_bitCount_95d88_10 : decode cJ13_bitCount_95d88 10 = .ok (.lload_n 0, 1) := by decide +kernel
theorem dJ13_bitCount_95d88_11 : decode cJ13_bitCount_95d88 11 = .ok (.ldc2_w 316, 3) := by decide +kernel
theorem dJ13_bitCount_95d88_14 : decode cJ13_bitCount_95d88 14 = .ok (.land, 1) := by decide +kernel
theorem dJ13_bitCount_95d88_15 : decode cJ13_bitCount_95d88 15 = .ok (.lload_n 0, 1) := by decide +kernel
theorem dJ13_bitCount_95d88_16 : decode cJ13_bitCount_95d88 16 = .ok (.iconst 2, 1) := by decide +kernel
theorem dJ13_bitCount_95d88_17 : decode cJ13_bitCount_95d88 17 = .ok (.lushr, 1) := by decide +kernel
theorem dJ13_bitCount_95d88_18 : decode cJ13_bitCount_95d88 18 = .ok (.ldc2_w 316, 3) := by decide +kernel
theorem dJ13_bitCount_95d88_21 : decode cJ13_bitCount_95d88 21 = .ok (.land, 1) := by decide +kernel
theorem dJ13_bitCount_95d88_22 : decode cJ13_bitCount_95d88 22 = .ok (.ladd, 1) := by decide +kernel
theorem dJ13_bitCount_95d88_23 : decode cJ13_bitCount_95d88 23 = .ok (.lstore_n 0, 1) := by decide +kernel
theorem dJ13_bitCount_95d88_24 : decode cJ13_bitCount_95d88 24 = .ok (.lload_n 0, 1) := by decide +kernel
theorem dJ13_bitCount_95d88_25 : decode cJ13_bitCount_95d88 25 = .ok (.lload_n 0, 1) := by decide +kernel
theorem dJ13_bitCount_95d88_26 : decode cJ13_bitCount_95d88 26 = .ok (.iconst 4, 1) := by decide +kernel
theorem dJ13_bitCount_95d88_27 : decode cJ13_bitCount_95d88 27 = .ok (.lushr, 1) := by decide +kernel
theorem dJ13_bitCount_95d88_28 : decode cJ13_bitCount_95d88 28 = .ok (.ladd, 1) := by decide +kernel
theorem dJ13_bitCount_95d88_29 : decode cJ13_bitCount_95d88 29 = .ok (.ldc2_w 318, 3) := by decide +kernel
theorem dJ13_bitCount_95d88_32 : decode cJ13_bitCount_95d88 32 = .ok (.land, 1) := by decide +kernel
theorem dJ13_bitCount_95d88_33 : decode cJ13_bitCount_95d88 33 = .ok (.lstore_n 0, 1) := by decide +kernel
theorem dJ13_bitCount_95d88_34 : decode cJ13_bitCount_95d88 34 = .ok (.lload_n 0, 1) := by decide +kernel
theorem dJ13_bitCount_95d88_35 : decode cJ13_bitCount_95d88 35 = .ok (.lload_n 0, 1) := by decide +kernel
theorem dJ13_bitCount_95d88_36 : decode cJ13_bitCount_95d88 36 = .ok (.bipush 8, 2) := by decide +kernel
theorem dJ13_bitCount_95d88_38 : decode cJ13_bitCount_95d88 38 = .ok (.lushr, 1) := by decide +kernel
theorem dJ13_bitCount_95d88_39 : decode cJ13_bitCount_95d88 39 = .ok (.ladd, 1) := by decide +kernel
theorem dJ13_bitCount_95d88_40 : decode cJ13_bitCount_95d88 40 = .ok (.lstore_n 0, 1) := by decide +kernel
theorem dJ13_bitCount_95d88_41 : decode cJ13_bitCount_95d88 41 = .ok (.lload_n 0, 1) := by decide +kernel
theorem dJ13_bitCount_95d88_42 : decode cJ13_bitCount_95d88 42 = .ok (.lload_n 0, 1) := by decide +kernel
theorem dJ13_bitCount_95d88_43 : decode cJ13_bitCount_95d88 43 = .ok (.bipush 16, 2) := by decide +kernel
theorem dJ13_bitCount_95d88_45 : decode cJ13_bitCount_95d88 45 = .ok (.lushr, 1) := by decide +kernel
theorem dJ13_bitCount_95d88_46 : decode cJ13_bitCount_95d88 46 = .ok (.ladd, 1) := by decide +kernel
theorem dJ13_bitCount_95d88_47 : decode cJ13_bitCount_95d88 47 = .ok (.lstore_n 0, 1) := by decide +kernel
theorem dJ13_bitCount_95d88_48 : decode cJ13_bitCount_95d88 48 = .ok (.lload_n 0, 1) := by decide +kernel
theorem dJ13_bitCount_95d88_49 : decode cJ13_bitCount_95d88 49 = .ok (.lload_n 0, 1) := by decide +kernel
theorem dJ13_bitCount_95d88_50 : decode cJ13_bitCount_95d88 50 = .ok (.bipush 32, 2) := by decide +kernel
theorem dJ13_bitCount_95d88_52 : decode cJ13_bitCount_95d88 52 = .ok (.lushr, 1) := by decide +kernel
theorem dJ13_bitCount_95d88_53 : decode cJ13_bitCount_95d88 53 = .ok (.ladd, 1) := by decide +kernel
theorem dJ13_bitCount_95d88_54 : decode cJ13_bitCount_95d88 54 = .ok (.lstore_n 0, 1) := by decide +kernel
theorem dJ13_bitCount_95d88_55 : decode cJ13_bitCount_95d88 55 = .ok (.lload_n 0, 1) := by decide +kernel
theorem dJ13_bitCount_95d88_56 : decode cJ13_bitCount_95d88 56 = .ok (.l2i, 1) := by decide +kernel
theorem dJ13_bitCount_95d88_57 : decode cJ13_bitCount_95d88 57 = .ok (.bipush 127, 2) := by decide +kernel
theorem dJ13_bitCount_95d88_59 : decode cJ13_bitCount_95d88 59 = .ok (.iand, 1) := by decide +kernel
theorem dJ13_bitCount_95d88_60 : decode cJ13_bitCount_95d88 60 = .ok (.ireturn, 1) := by decide +kernel
theorem dX11_slotsWithRow_0 : decode cX11_slotsWithRow 0 = .ok (.iconst 0, 1) := by decide +kernel
theorem dX11_slotsWithRow_1 : decode cX11_slotsWithRow 1 = .ok (.istore_n 1, 1) := by decide +kernel
theorem dX11_slotsWithRow_2 : decode cX11_slotsWithRow 2 = .ok (.iconst 0, 1) := by decide +kernel
theorem dX11_slotsWithRow_3 : decode cX11_slotsWithRow 3 = .ok (.istore_n 2, 1) := by decide +kernel
theorem dX11_slotsWithRow_4 : decode cX11_slotsWithRow 4 = .ok (.iload_n 2, 1) := by decide +kernel
theorem dX11_slotsWithRow_5 : decode cX11_slotsWithRow 5 = .ok (.iconst 4, 1) := by decide +kernel
theorem dX11_slotsWithRow_6 : decode cX11_slotsWithRow 6 = .ok (.if_icmp .ge 24, 3) := by decide +kernel
theorem dX11_slotsWithRow_9 : decode cX11_slotsWithRow 9 = .ok (.aload_n 0, 1) := by decide +kernel
theorem dX11_slotsWithRow_10 : decode cX11_slotsWithRow 10 = .ok (.getfield 28, 3) := by decide +kernel
theorem dX11_slotsWithRow_13 : decode cX11_slotsWithRow 13 = .ok (.iload_n 2, 1) := by decide +kernel
theorem dX11_slotsWithRow_14 : decode cX11_slotsWithRow 14 = .ok (.aaload, 1) := by decide +kernel
theorem dX11_slotsWithRow_15 : decode cX11_slotsWithRow 15 = .ok (.invokevirtual 358, 3) := by decide +kernel
theorem dX11_slotsWithRow_18 : decode cX11_slotsWithRow 18 = .ok (.ifCond .eq 6, 3) := by decide +kernel
theorem dX11_slotsWithRow_24 : decode cX11_slotsWithRow 24 = .ok (.iinc 2 1, 3) := by decide +kernel
theorem dX11_slotsWithRow_27 : decode cX11_slotsWithRow 27 = .ok (.goto (-23), 3) := by decide +kernel
theorem dX11_slotsWithRow_30 : decode cX11_slotsWithRow 30 = .ok (.iload_n 1, 1) := by decide +kernel
theorem dX11_slotsWithRow_31 : decode cX11_slotsWithRow 31 = .ok (.ireturn, 1) := by decide +kernel
theorem dX11_count_0 : decode cX11_count 0 = .ok (.iload_n 1, 1) := by decide +kernel
theorem dX11_count_1 : decode cX11_count 1 = .ok (.tableswitch 138 0 9 #[55, 63, 71, 79, 87, 95, 106, 117, 125, 133], 55) := by decide +kernel
theorem dX11_count_56 : decode cX11_count 56 = .ok (.aload_n 0, 1) := by decide +kernel
theorem dX11_count_57 : decode cX11_count 57 = .ok (.getfield 33, 3) := by decide +kernel
theorem dX11_count_60 : decode cX11_count 60 = .ok (.getfield 334, 3) := by decide +kernel
theorem dX11_count_63 : decode cX11_count 63 = .ok (.ireturn, 1) := by decide +kernel
theorem dX11_count_64 : decode cX11_count 64 = .ok (.aload_n 0, 1) := by decide +kernel
theorem dX11_count_65 : decode cX11_count 65 = .ok (.getfield 33, 3) := by decide +kernel
theorem dX11_count_68 : decode cX11_count 68 = .ok (.getfield 337, 3) := by decide +kernel
theorem dX11_count_71 : decode cX11_count 71 = .ok (.ireturn, 1) := by decide +kernel
theorem dX11_count_72 : decode cX11_count 72 = .ok (.aload_n 0, 1) := by decide +kernel
theorem dX11_count_73 : decode cX11_count 73 = .ok (.getfield 33, 3) := by decide +kernel
theorem dX11_count_76 : decode cX11_count 76 = .ok (.getfield 237, 3) := by decide +kernel
theorem dX11_count_79 : decode cX11_count 79 = .ok (.ireturn, 1) := by decide +kernel
theorem dX11_count_80 : decode cX11_count 80 = .ok (.aload_n 0, 1) := by decide +kernel
theorem dX11_count_81 : decode cX11_count 81 = .ok (.getfield 33, 3) := by decide +kernel
theorem dX11_count_84 : decode cX11_count 84 = .ok (.getfield 275, 3) := by decide +kernel
theorem dX11_count_87 : decode cX11_count 87 = .ok (.ireturn, 1) := by decide +kernel
theorem dX11_count_88 : decode cX11_count 88 = .ok (.aload_n 0, 1) := by decide +kernel
theorem dX11_count_89 : decode cX11_count 89 = .ok (.getfield 33, 3) := by decide +kernel
theorem dX11_count_92 : decode cX11_count 92 = .ok (.getfield 293, 3) := by decide +kernel
theorem dX11_count_95 : decode cX11_count 95 = .ok (.ireturn, 1) := by decide +kernel
theorem dX11_count_96 : decode cX11_count 96 = .ok (.aload_n 0, 1) := by decide +kernel
theorem dX11_count_97 : decode cX11_count 97 = .ok (.getfield 33, 3) := by decide +kernel
theorem dX11_count_100 : decode cX11_count 100 = .ok (.getfield 340, 3) := by decide +kernel
theorem dX11_count_103 : decode cX11_count 103 = .ok (.invokestatic 263, 3) := by decide +kernel
theorem dX11_count_106 : decode cX11_count 106 = .ok (.ireturn, 1) := by decide +kernel
theorem dX11_count_107 : decode cX11_count 107 = .ok (.aload_n 0, 1) := by decide +kernel
theorem dX11_count_108 : decode cX11_count 108 = .ok (.getfield 33, 3) := by decide +kernel
theorem dX11_count_111 : decode cX11_count 111 = .ok (.getfield 296, 3) := by decide +kernel
theorem dX11_count_114 : decode cX11_count 114 = .ok (.getfield 315, 3) := by decide +kernel
theorem dX11_count_117 : decode cX11_count 117 = .ok (.ireturn, 1) := by decide +kernel
theorem dX11_count_118 : decode cX11_count 118 = .ok (.aload_n 0, 1) := by decide +kernel
theorem dX11_count_119 : decode cX11_count 119 = .ok (.getfield 33, 3) := by decide +kernel
theorem dX11_count_122 : decode cX11_count 122 = .ok (.getfield 115, 3) := by decide +kernel
theorem dX11_count_125 : decode cX11_count 125 = .ok (.ireturn, 1) := by decide +kernel
theorem dX11_count_126 : decode cX11_count 126 = .ok (.aload_n 0, 1) := by decide +kernel
theorem dX11_count_127 : decode cX11_count 127 = .ok (.getfield 10, 3) := by decide +kernel
theorem dX11_count_130 : decode cX11_count 130 = .ok (.getfield 104, 3) := by decide +kernel
theorem dX11_count_133 : decode cX11_count 133 = .ok (.ireturn, 1) := by decide +kernel
theorem dX11_count_134 : decode cX11_count 134 = .ok (.aload_n 0, 1) := by decide +kernel
theorem dX11_count_135 : decode cX11_count 135 = .ok (.invokevirtual 344, 3) := by decide +kernel
theorem dX11_count_138 : decode cX11_count 138 = .ok (.ireturn, 1) := by decide +kernel
theorem dX11_count_139 : decode cX11_count 139 = .ok (.iconst (-1), 1) := by decide +kernel
theorem dX11_count_140 : decode cX11_count 140 = .ok (.ireturn, 1) := by decide +kernel
theorem dX1_keep_0 : decode cX1_keep 0 = .ok (.aload_n 0, 1) := by decide +kernel
theorem dX1_keep_1 : decode cX1_keep 1 = .ok (.aload_n 1, 1) := by decide +kernel
theorem dX1_keep_2 : decode cX1_keep 2 = .ok (.getfield 24, 3) := by decide +kernel
theorem dX1_keep_5 : decode cX1_keep 5 = .ok (.putfield 24, 3) := by decide +kernel
theorem dX1_keep_8 : decode cX1_keep 8 = .ok (.aload_n 1, 1) := by decide +kernel
theorem dX1_keep_9 : decode cX1_keep 9 = .ok (.getfield 9, 3) := by decide +kernel
theorem dX1_keep_12 : decode cX1_keep 12 = .ok (.iconst 0, 1) := by decide +kernel
theorem dX1_keep_13 : decode cX1_keep 13 = .ok (.aload_n 0, 1) := by decide +kernel
theorem dX1_keep_14 : decode cX1_keep 14 = .ok (.getfield 9, 3) := by decide +kernel
theorem dX1_keep_17 : decode cX1_keep 17 = .ok (.iconst 0, 1) := by decide +kernel
theorem dX1_keep_18 : decode cX1_keep 18 = .ok (.bipush 40, 2) := by decide +kernel
theorem dX1_keep_20 : decode cX1_keep 20 = .ok (.invokestatic 32, 3) := by decide +kernel
theorem dX1_keep_23 : decode cX1_keep 23 = .ok (.aload_n 1, 1) := by decide +kernel
theorem dX1_keep_24 : decode cX1_keep 24 = .ok (.getfield 15, 3) := by decide +kernel
theorem dX1_keep_27 : decode cX1_keep 27 = .ok (.iconst 0, 1) := by decide +kernel
theorem dX1_keep_28 : decode cX1_keep 28 = .ok (.aload_n 0, 1) := by decide +kernel
theorem dX1_keep_29 : decode cX1_keep 29 = .ok (.getfield 15, 3) := by decide +kernel
theorem dX1_keep_32 : decode cX1_keep 32 = .ok (.iconst 0, 1) := by decide +kernel
theorem dX1_keep_33 : decode cX1_keep 33 = .ok (.bipush 40, 2) := by decide +kernel
theorem dX1_keep_35 : decode cX1_keep 35 = .ok (.invokestatic 32, 3) := by decide +kernel
theorem dX1_keep_38 : decode cX1_keep 38 = .ok (.aload_n 1, 1) := by decide +kernel
theorem dX1_keep_39 : decode cX1_keep 39 = .ok (.getfield 18, 3) := by decide +kernel
theorem dX1_keep_42 : decode cX1_keep 42 = .ok (.iconst 0, 1) := by decide +kernel
theorem dX1_keep_43 : decode cX1_keep 43 = .ok (.aload_n 0, 1) := by decide +kernel
theorem dX1_keep_44 : decode cX1_keep 44 = .ok (.getfield 18, 3) := by decide +kernel
theorem dX1_keep_47 : decode cX1_keep 47 = .ok (.iconst 0, 1) := by decide +kernel
theorem dX1_keep_48 : decode cX1_keep 48 = .ok (.bipush 40, 2) := by decide +kernel
theorem dX1_keep_50 : decode cX1_keep 50 = .ok (.invokestatic 32, 3) := by decide +kernel
theorem dX1_keep_53 : decode cX1_keep 53 = .ok (.aload_n 1, 1) := by decide +kernel
theorem dX1_keep_54 : decode cX1_keep 54 = .ok (.getfield 21, 3) := by decide +kernel
theorem dX1_keep_57 : decode cX1_keep 57 = .ok (.iconst 0, 1) := by decide +kernel
theorem dX1_keep_58 : decode cX1_keep 58 = .ok (.aload_n 0, 1) := by decide +kernel
theorem dX1_keep_59 : decode cX1_keep 59 = .ok (.getfield 21, 3) := by decide +kernel
theorem dX1_keep_62 : decode cX1_keep 62 = .ok (.iconst 0, 1) := by decide +kernel
theorem dX1_keep_63 : decode cX1_keep 63 = .ok (.bipush 40, 2) := by decide +kernel
theorem dX1_keep_65 : decode cX1_keep 65 = .ok (.invokestatic 32, 3) := by decide +kernel
theorem dX1_keep_68 : decode cX1_keep 68 = .ok (.return_, 1) := by decide +kernel
theorem dX5_copyFrom_0 : decode cX5_copyFrom 0 = .ok (.aload_n 0, 1) := by decide +kernel
theorem dX5_copyFrom_1 : decode cX5_copyFrom 1 = .ok (.aload_n 1, 1) := by decide +kernel
theorem dX5_copyFrom_2 : decode cX5_copyFrom 2 = .ok (.getfield 43, 3) := by decide +kernel
theorem dX5_copyFrom_5 : decode cX5_copyFrom 5 = .ok (.putfield 43, 3) := by decide +kernel
theorem dX5_copyFrom_8 : decode cX5_copyFrom 8 = .ok (.aload_n 0, 1) := by decide +kernel
theorem dX5_copyFrom_9 : decode cX5_copyFrom 9 = .ok (.aload_n 1, 1) := by decide +kernel
theorem dX5_copyFrom_10 : decode cX5_copyFrom 10 = .ok (.getfield 47, 3) := by decide +kernel
theorem dX5_copyFrom_13 : decode cX5_copyFrom 13 = .ok (.putfield 47, 3) := by decide +kernel
theorem dX5_copyFrom_16 : decode cX5_copyFrom 16 = .ok (.aload_n 0, 1) := by decide +kernel
theorem dX5_copyFrom_17 : decode cX5_copyFrom 17 = .ok (.aload_n 1, 1) := by decide +kernel
theorem dX5_copyFrom_18 : decode cX5_copyFrom 18 = .ok (.getfield 50, 3) := by decide +kernel
theorem dX5_copyFrom_21 : decode cX5_copyFrom 21 = .ok (.putfield 50, 3) := by decide +kernel
theorem dX5_copyFrom_24 : decode cX5_copyFrom 24 = .ok (.aload_n 0, 1) := by decide +kernel
theorem dX5_copyFrom_25 : decode cX5_copyFrom 25 = .ok (.aload_n 1, 1) := by decide +kernel
theorem dX5_copyFrom_26 : decode cX5_copyFrom 26 = .ok (.getfield 53, 3) := by decide +kernel
theorem dX5_copyFrom_29 : decode cX5_copyFrom 29 = .ok (.putfield 53, 3) := by decide +kernel
theorem dX5_copyFrom_32 : decode cX5_copyFrom 32 = .ok (.aload_n 0, 1) := by decide +kernel
theorem dX5_copyFrom_33 : decode cX5_copyFrom 33 = .ok (.aload_n 1, 1) := by decide +kernel
theorem dX5_copyFrom_34 : decode cX5_copyFrom 34 = .ok (.getfield 56, 3) := by decide +kernel
theorem dX5_copyFrom_37 : decode cX5_copyFrom 37 = .ok (.putfield 56, 3) := by decide +kernel
theorem dX5_copyFrom_40 : decode cX5_copyFrom 40 = .ok (.aload_n 0, 1) := by decide +kernel
theorem dX5_copyFrom_41 : decode cX5_copyFrom 41 = .ok (.aload_n 1, 1) := by decide +kernel
theorem dX5_copyFrom_42 : decode cX5_copyFrom 42 = .ok (.getfield 59, 3) := by decide +kernel
theorem dX5_copyFrom_45 : decode cX5_copyFrom 45 = .ok (.putfield 59, 3) := by decide +kernel
theorem dX5_copyFrom_48 : decode cX5_copyFrom 48 = .ok (.aload_n 0, 1) := by decide +kernel
theorem dX5_copyFrom_49 : decode cX5_copyFrom 49 = .ok (.aload_n 1, 1) := by decide +kernel
theorem dX5_copyFrom_50 : decode cX5_copyFrom 50 = .ok (.getfield 62, 3) := by decide +kernel
theorem dX5_copyFrom_53 : decode cX5_copyFrom 53 = .ok (.putfield 62, 3) := by decide +kernel
theorem dX5_copyFrom_56 : decode cX5_copyFrom 56 = .ok (.aload_n 1, 1) := by decide +kernel
theorem dX5_copyFrom_57 : decode cX5_copyFrom 57 = .ok (.getfield 9, 3) := by decide +kernel
theorem dX5_copyFrom_60 : decode cX5_copyFrom 60 = .ok (.iconst 0, 1) := by decide +kernel
theorem dX5_copyFrom_61 : decode cX5_copyFrom 61 = .ok (.aload_n 0, 1) := by decide +kernel
theorem dX5_copyFrom_62 : decode cX5_copyFrom 62 = .ok (.getfield 9, 3) := by decide +kernel
theorem dX5_copyFrom_65 : decode cX5_copyFrom 65 = .ok (.iconst 0, 1) := by decide +kernel
theorem dX5_copyFrom_66 : decode cX5_copyFrom 66 = .ok (.bipush 9, 2) := by decide +kernel
theorem dX5_copyFrom_68 : decode cX5_copyFrom 68 = .ok (.invokestatic 69, 3) := by decide +kernel
theorem dX5_copyFrom_71 : decode cX5_copyFrom 71 = .ok (.aload_n 1, 1) := by decide +kernel
theorem dX5_copyFrom_72 : decode cX5_copyFrom 72 = .ok (.getfield 15, 3) := by decide +kernel
theorem dX5_copyFrom_75 : decode cX5_copyFrom 75 = .ok (.iconst 0, 1) := by decide +kernel
theorem dX5_copyFrom_76 : decode cX5_copyFrom 76 = .ok (.aload_n 0, 1) := by decide +kernel
theorem dX5_copyFrom_77 : decode cX5_copyFrom 77 = .ok (.getfield 15, 3) := by decide +kernel
theorem dX5_copyFrom_80 : decode cX5_copyFrom 80 = .ok (.iconst 0, 1) := by decide +kernel
theorem dX5_copyFrom_81 : decode cX5_copyFrom 81 = .ok (.bipush 9, 2) := by decide +kernel
theorem dX5_copyFrom_83 : decode cX5_copyFrom 83 = .ok (.invokestatic 69, 3) := by decide +kernel
theorem dX5_copyFrom_86 : decode cX5_copyFrom 86 = .ok (.aload_n 1, 1) := by decide +kernel
theorem dX5_copyFrom_87 : decode cX5_copyFrom 87 = .ok (.getfield 18, 3) := by decide +kernel
theorem dX5_copyFrom_90 : decode cX5_copyFrom 90 = .ok (.iconst 0, 1) := by decide +kernel
theorem dX5_copyFrom_91 : decode cX5_copyFrom 91 = .ok (.aload_n 0, 1) := by decide +kernel
theorem dX5_copyFrom_92 : decode cX5_copyFrom 92 = .ok (.getfield 18, 3) := by decide +kernel
theorem dX5_copyFrom_95 : decode cX5_copyFrom 95 = .ok (.iconst 0, 1) := by decide +kernel
theorem dX5_copyFrom_96 : decode cX5_copyFrom 96 = .ok (.bipush 9, 2) := by decide +kernel
theorem dX5_copyFrom_98 : decode cX5_copyFrom 98 = .ok (.invokestatic 69, 3) := by decide +kernel
theorem dX5_copyFrom_101 : decode cX5_copyFrom 101 = .ok (.aload_n 1, 1) := by decide +kernel
theorem dX5_copyFrom_102 : decode cX5_copyFrom 102 = .ok (.getfield 21, 3) := by decide +kernel
theorem dX5_copyFrom_105 : decode cX5_copyFrom 105 = .ok (.iconst 0, 1) := by decide +kernel
theorem dX5_copyFrom_106 : decode cX5_copyFrom 106 = .ok (.aload_n 0, 1) := by decide +kernel
theorem dX5_copyFrom_107 : decode cX5_copyFrom 107 = .ok (.getfield 21, 3) := by decide +kernel
theorem dX5_copyFrom_110 : decode cX5_copyFrom 110 = .ok (.iconst 0, 1) := by decide +kernel
theorem dX5_copyFrom_111 : decode cX5_copyFrom 111 = .ok (.bipush 9, 2) := by decide +kernel
theorem dX5_copyFrom_113 : decode cX5_copyFrom 113 = .ok (.invokestatic 69, 3) := by decide +kernel
theorem dX5_copyFrom_116 : decode cX5_copyFrom 116 = .ok (.aload_n 1, 1) := by decide +kernel
theorem dX5_copyFrom_117 : decode cX5_copyFrom 117 = .ok (.getfield 24, 3) := by decide +kernel
theorem dX5_copyFrom_120 : decode cX5_copyFrom 120 = .ok (.iconst 0, 1) := by decide +kernel
theorem dX5_copyFrom_121 : decode cX5_copyFrom 121 = .ok (.aload_n 0, 1) := by decide +kernel
theorem dX5_copyFrom_122 : decode cX5_copyFrom 122 = .ok (.getfield 24, 3) := by decide +kernel
theorem dX5_copyFrom_125 : decode cX5_copyFrom 125 = .ok (.iconst 0, 1) := by decide +kernel
theorem dX5_copyFrom_126 : decode cX5_copyFrom 126 = .ok (.bipush 7, 2) := by decide +kernel
theorem dX5_copyFrom_128 : decode cX5_copyFrom 128 = .ok (.invokestatic 69, 3) := by decide +kernel
theorem dX5_copyFrom_131 : decode cX5_copyFrom 131 = .ok (.aload_n 1, 1) := by decide +kernel
theorem dX5_copyFrom_132 : decode cX5_copyFrom 132 = .ok (.getfield 27, 3) := by decide +kernel
theorem dX5_copyFrom_135 : decode cX5_copyFrom 135 = .ok (.iconst 0, 1) := by decide +kernel
theorem dX5_copyFrom_136 : decode cX5_copyFrom 136 = .ok (.aload_n 0, 1) := by decide +kernel
theorem dX5_copyFrom_137 : decode cX5_copyFrom 137 = .ok (.getfield 27, 3) := by decide +kernel
theorem dX5_copyFrom_140 : decode cX5_copyFrom 140 = .ok (.iconst 0, 1) := by decide +kernel
theorem dX5_copyFrom_141 : decode cX5_copyFrom 141 = .ok (.bipush 7, 2) := by decide +kernel
theorem dX5_copyFrom_143 : decode cX5_copyFrom 143 = .ok (.invokestatic 69, 3) := by decide +kernel
theorem dX5_copyFrom_146 : decode cX5_copyFrom 146 = .ok (.aload_n 1, 1) := by decide +kernel
theorem dX5_copyFrom_147 : decode cX5_copyFrom 147 = .ok (.getfield 30, 3) := by decide +kernel
theorem dX5_copyFrom_150 : decode cX5_copyFrom 150 = .ok (.iconst 0, 1) := by decide +kernel
theorem dX5_copyFrom_151 : decode cX5_copyFrom 151 = .ok (.aload_n 0, 1) := by decide +kernel
theorem dX5_copyFrom_152 : decode cX5_copyFrom 152 = .ok (.getfield 30, 3) := by decide +kernel
theorem dX5_copyFrom_155 : decode cX5_copyFrom 155 = .ok (.iconst 0, 1) := by decide +kernel
theorem dX5_copyFrom_156 : decode cX5_copyFrom 156 = .ok (.bipush 7, 2) := by decide +kernel
theorem dX5_copyFrom_158 : decode cX5_copyFrom 158 = .ok (.invokestatic 69, 3) := by decide +kernel
theorem dX5_copyFrom_161 : decode cX5_copyFrom 161 = .ok (.aload_n 1, 1) := by decide +kernel
theorem dX5_copyFrom_162 : decode cX5_copyFrom 162 = .ok (.getfield 33, 3) := by decide +kernel
theorem dX5_copyFrom_165 : decode cX5_copyFrom 165 = .ok (.iconst 0, 1) := by decide +kernel
theorem dX5_copyFrom_166 : decode cX5_copyFrom 166 = .ok (.aload_n 0, 1) := by decide +kernel
theorem dX5_copyFrom_167 : decode cX5_copyFrom 167 = .ok (.getfield 33, 3) := by decide +kernel
theorem dX5_copyFrom_170 : decode cX5_copyFrom 170 = .ok (.iconst 0, 1) := by decide +kernel
theorem dX5_copyFrom_171 : decode cX5_copyFrom 171 = .ok (.bipush 7, 2) := by decide +kernel
theorem dX5_copyFrom_173 : decode cX5_copyFrom 173 = .ok (.invokestatic 69, 3) := by decide +kernel
theorem dX5_copyFrom_176 : decode cX5_copyFrom 176 = .ok (.aload_n 0, 1) := by decide +kernel
theorem dX5_copyFrom_177 : decode cX5_copyFrom 177 = .ok (.getfield 39, 3) := by decide +kernel
theorem dX5_copyFrom_180 : decode cX5_copyFrom 180 = .ok (.aload_n 1, 1) := by decide +kernel
theorem dX5_copyFrom_181 : decode cX5_copyFrom 181 = .ok (.getfield 39, 3) := by decide +kernel
theorem dX5_copyFrom_184 : decode cX5_copyFrom 184 = .ok (.invokevirtual 75, 3) := by decide +kernel
theorem dX5_copyFrom_187 : decode cX5_copyFrom 187 = .ok (.return_, 1) := by decide +kernel
theorem dX11_image_0 : decode cX11_image 0 = .ok (.iload_n 1, 1) := by decide +kernel
theorem dX11_image_1 : decode cX11_image 1 = .ok (.ifCond .lt 8, 3) := by decide +kernel
theorem dX11_image_4 : decode cX11_image 4 = .ok (.iload_n 1, 1) := by decide +kernel
theorem dX11_image_5 : decode cX11_image 5 = .ok (.iconst 3, 1) := by decide +kernel
theorem dX11_image_6 : decode cX11_image 6 = .ok (.if_icmp .lt 6, 3) := by decide +kernel
theorem dX11_image_9 : decode cX11_image 9 = .ok (.bipush (-2), 2) := by decide +kernel
theorem dX11_image_11 : decode cX11_image 11 = .ok (.ireturn, 1) := by decide +kernel
theorem dX11_image_12 : decode cX11_image 12 = .ok (.aload_n 0, 1) := by decide +kernel
theorem dX11_image_13 : decode cX11_image 13 = .ok (.getfield 18, 3) := by decide +kernel
theorem dX11_image_16 : decode cX11_image 16 = .ok (.iload_n 1, 1) := by decide +kernel
theorem dX11_image_17 : decode cX11_image 17 = .ok (.aaload, 1) := by decide +kernel
theorem dX11_image_18 : decode cX11_image 18 = .ok (.aload_n 0, 1) := by decide +kernel
theorem dX11_image_19 : decode cX11_image 19 = .ok (.getfield 33, 3) := by decide +kernel
theorem dX11_image_22 : decode cX11_image 22 = .ok (.invokevirtual 348, 3) := by decide +kernel
theorem dX11_image_25 : decode cX11_image 25 = .ok (.aload_n 0, 1) := by decide +kernel
theorem dX11_image_26 : decode cX11_image 26 = .ok (.getfield 22, 3) := by decide +kernel
theorem dX11_image_29 : decode cX11_image 29 = .ok (.iload_n 1, 1) := by decide +kernel
theorem dX11_image_30 : decode cX11_image 30 = .ok (.iconst 1, 1) := by decide +kernel
theorem dX11_image_31 : decode cX11_image 31 = .ok (.bastore, 1) := by decide +kernel
theorem dX11_image_32 : decode cX11_image 32 = .ok (.iconst 0, 1) := by decide +kernel
theorem dX11_image_33 : decode cX11_image 33 = .ok (.ireturn, 1) := by decide +kernel
theorem dX11_back_0 : decode cX11_back 0 = .ok (.iload_n 1, 1) := by decide +kernel
theorem dX11_back_1 : decode cX11_back 1 = .ok (.ifCond .lt 8, 3) := by decide +kernel
theorem dX11_back_4 : decode cX11_back 4 = .ok (.iload_n 1, 1) := by decide +kernel
theorem dX11_back_5 : decode cX11_back 5 = .ok (.iconst 3, 1) := by decide +kernel
theorem dX11_back_6 : decode cX11_back 6 = .ok (.if_icmp .lt 6, 3) := by decide +kernel
theorem dX11_back_9 : decode cX11_back 9 = .ok (.bipush (-2), 2) := by decide +kernel
theorem dX11_back_11 : decode cX11_back 11 = .ok (.ireturn, 1) := by decide +kernel
theorem dX11_back_12 : decode cX11_back 12 = .ok (.aload_n 0, 1) := by decide +kernel
theorem dX11_back_13 : decode cX11_back 13 = .ok (.getfield 22, 3) := by decide +kernel
theorem dX11_back_16 : decode cX11_back 16 = .ok (.iload_n 1, 1) := by decide +kernel
theorem dX11_back_17 : decode cX11_back 17 = .ok (.baload, 1) := by decide +kernel
theorem dX11_back_18 : decode cX11_back 18 = .ok (.ifCond .ne 6, 3) := by decide +kernel
theorem dX11_back_21 : decode cX11_back 21 = .ok (.bipush (-6), 2) := by decide +kernel
theorem dX11_back_23 : decode cX11_back 23 = .ok (.ireturn, 1) := by decide +kernel
theorem dX8_lay_0 : decode cX8_lay 0 = .ok (.aload_n 0, 1) := by decide +kernel
theorem dX8_lay_1 : decode cX8_lay 1 = .ok (.iload_n 1, 1) := by decide +kernel
theorem dX8_lay_2 : decode cX8_lay 2 = .ok (.putfield 19, 3) := by decide +kernel
theorem dX8_lay_5 : decode cX8_lay 5 = .ok (.aload_n 0, 1) := by decide +kernel
theorem dX8_lay_6 : decode cX8_lay 6 = .ok (.iload_n 2, 1) := by decide +kernel
theorem dX8_lay_7 : decode cX8_lay 7 = .ok (.putfield 15, 3) := by decide +kernel
theorem dX8_lay_10 : decode cX8_lay 10 = .ok (.iconst 0, 1) := by decide +kernel
theorem dX8_lay_11 : decode cX8_lay 11 = .ok (.istore_n 3, 1) := by decide +kernel
theorem dX8_lay_12 : decode cX8_lay 12 = .ok (.iload_n 3, 1) := by decide +kernel
theorem dX8_lay_13 : decode cX8_lay 13 = .ok (.bipush 60, 2) := by decide +kernel
theorem dX8_lay_15 : decode cX8_lay 15 = .ok (.if_icmp .ge 16, 3) := by decide +kernel
theorem dX8_lay_18 : decode cX8_lay 18 = .ok (.aload_n 0, 1) := by decide +kernel
theorem dX8_lay_19 : decode cX8_lay 19 = .ok (.getfield 9, 3) := by decide +kernel
theorem dX8_lay_22 : decode cX8_lay 22 = .ok (.iload_n 3, 1) := by decide +kernel
theorem dX8_lay_23 : decode cX8_lay 23 = .ok (.lconst 0, 1) := by decide +kernel
theorem dX8_lay_24 : decode cX8_lay 24 = .ok (.lastore, 1) := by decide +kernel
theorem dX8_lay_25 : decode cX8_lay 25 = .ok (.iinc 3 1, 3) := by decide +kernel
theorem dX8_lay_28 : decode cX8_lay 28 = .ok (.goto (-16), 3) := by decide +kernel
theorem dX8_lay_31 : decode cX8_lay 31 = .ok (.return_, 1) := by decide +kernel
theorem dX11_row_0 : decode cX11_row 0 = .ok (.iload_n 1, 1) := by decide +kernel
theorem dX11_row_1 : decode cX11_row 1 = .ok (.invokestatic 351, 3) := by decide +kernel
theorem dX11_row_4 : decode cX11_row 4 = .ok (.ifCond .eq 18, 3) := by decide +kernel
theorem dX11_row_7 : decode cX11_row 7 = .ok (.iload_n 2, 1) := by decide +kernel
theorem dX11_row_8 : decode cX11_row 8 = .ok (.ifCond .lt 14, 3) := by decide +kernel
theorem dX11_row_11 : decode cX11_row 11 = .ok (.iload_n 2, 1) := by decide +kernel
theorem dX11_row_12 : decode cX11_row 12 = .ok (.iconst 4, 1) := by decide +kernel
theorem dX11_row_13 : decode cX11_row 13 = .ok (.if_icmp .ge 9, 3) := by decide +kernel
theorem dX11_row_16 : decode cX11_row 16 = .ok (.iload_n 3, 1) := by decide +kernel
theorem dX11_row_17 : decode cX11_row 17 = .ok (.bipush 60, 2) := by decide +kernel
theorem dX11_row_19 : decode cX11_row 19 = .ok (.if_icmp .le 6, 3) := by decide +kernel
theorem dX11_row_22 : decode cX11_row 22 = .ok (.bipush (-2), 2) := by decide +kernel
theorem dX11_row_24 : decode cX11_row 24 = .ok (.ireturn, 1) := by decide +kernel
theorem dX11_row_25 : decode cX11_row 25 = .ok (.iload_n 3, 1) := by decide +kernel
theorem dX11_row_26 : decode cX11_row 26 = .ok (.ifCond .ge 6, 3) := by decide +kernel
theorem dX11_row_29 : decode cX11_row 29 = .ok (.bipush (-3), 2) := by decide +kernel
theorem dX11_row_31 : decode cX11_row 31 = .ok (.ireturn, 1) := by decide +kernel
theorem dX11_row_32 : decode cX11_row 32 = .ok (.aload_n 0, 1) := by decide +kernel
theorem dX11_row_33 : decode cX11_row 33 = .ok (.getfield 28, 3) := by decide +kernel
theorem dX11_row_36 : decode cX11_row 36 = .ok (.iload_n 1, 1) := by decide +kernel
theorem dX11_row_37 : decode cX11_row 37 = .ok (.aaload, 1) := by decide +kernel
theorem dX11_row_38 : decode cX11_row 38 = .ok (.iload_n 2, 1) := by decide +kernel
theorem dX11_row_39 : decode cX11_row 39 = .ok (.iload_n 3, 1) := by decide +kernel
theorem dX11_row_40 : decode cX11_row 40 = .ok (.invokevirtual 354, 3) := by decide +kernel
theorem dX11_row_43 : decode cX11_row 43 = .ok (.iconst 0, 1) := by decide +kernel
theorem dX11_row_44 : decode cX11_row 44 = .ok (.ireturn, 1) := by decide +kernel
theorem dX11_write_0 : decode cX11_write 0 = .ok (.iload_n 1, 1) := by decide +kernel
theorem dX11_write_1 : decode cX11_write 1 = .ok (.invokestatic 351, 3) := by decide +kernel
theorem dX11_write_4 : decode cX11_write 4 = .ok (.ifCond .ne 6, 3) := by decide +kernel
theorem dX11_write_7 : decode cX11_write 7 = .ok (.bipush (-2), 2) := by decide +kernel
theorem dX11_write_9 : decode cX11_write 9 = .ok (.ireturn, 1) := by decide +kernel
theorem dX11_write_10 : decode cX11_write 10 = .ok (.aload_n 0, 1) := by decide +kernel
theorem dX11_write_11 : decode cX11_write 11 = .ok (.getfield 28, 3) := by decide +kernel
theorem dX11_write_14 : decode cX11_write 14 = .ok (.iload_n 1, 1) := by decide +kernel
theorem dX11_write_15 : decode cX11_write 15 = .ok (.aaload, 1) := by decide +kernel
theorem dX11_write_16 : decode cX11_write 16 = .ok (.astore 5, 2) := by decide +kernel
theorem dX11_write_18 : decode cX11_write 18 = .ok (.aload 5, 2) := by decide +kernel
theorem dX11_write_20 : decode cX11_write 20 = .ok (.invokevirtual 358, 3) := by decide +kernel
theorem dX11_write_23 : decode cX11_write 23 = .ok (.ifCond .ne 6, 3) := by decide +kernel
theorem dX11_write_26 : decode cX11_write 26 = .ok (.bipush (-6), 2) := by decide +kernel
theorem dX11_write_28 : decode cX11_write 28 = .ok (.ireturn, 1) := by decide +kernel
theorem dX11_paste_0 : decode cX11_paste 0 = .ok (.iload_n 1, 1) := by decide +kernel
theorem dX11_paste_1 : decode cX11_paste 1 = .ok (.invokestatic 351, 3) := by decide +kernel
theorem dX11_paste_4 : decode cX11_paste 4 = .ok (.ifCond .eq 10, 3) := by decide +kernel
theorem dX11_paste_7 : decode cX11_paste 7 = .ok (.iload_n 3, 1) := by decide +kernel
theorem dX11_paste_8 : decode cX11_paste 8 = .ok (.invokestatic 351, 3) := by decide +kernel
theorem dX11_paste_11 : decode cX11_paste 11 = .ok (.ifCond .ne 6, 3) := by decide +kernel
theorem dX11_paste_14 : decode cX11_paste 14 = .ok (.bipush (-2), 2) := by decide +kernel
theorem dX11_paste_16 : decode cX11_paste 16 = .ok (.ireturn, 1) := by decide +kernel
theorem dX11_paste_17 : decode cX11_paste 17 = .ok (.aload_n 0, 1) := by decide +kernel
theorem dX11_paste_18 : decode cX11_paste 18 = .ok (.getfield 28, 3) := by decide +kernel
theorem dX11_paste_21 : decode cX11_paste 21 = .ok (.iload_n 1, 1) := by decide +kernel
theorem dX11_paste_22 : decode cX11_paste 22 = .ok (.aaload, 1) := by decide +kernel
theorem dX11_paste_23 : decode cX11_paste 23 = .ok (.astore 6, 2) := by decide +kernel
theorem dX11_paste_25 : decode cX11_paste 25 = .ok (.aload_n 0, 1) := by decide +kernel
theorem dX11_paste_26 : decode cX11_paste 26 = .ok (.getfield 28, 3) := by decide +kernel
theorem dX11_paste_29 : decode cX11_paste 29 = .ok (.iload_n 3, 1) := by decide +kernel
theorem dX11_paste_30 : decode cX11_paste 30 = .ok (.aaload, 1) := by decide +kernel
theorem dX11_paste_31 : decode cX11_paste 31 = .ok (.astore 7, 2) := by decide +kernel
theorem dX11_paste_33 : decode cX11_paste 33 = .ok (.aload 6, 2) := by decide +kernel
theorem dX11_paste_35 : decode cX11_paste 35 = .ok (.invokevirtual 358, 3) := by decide +kernel
theorem dX11_paste_38 : decode cX11_paste 38 = .ok (.ifCond .eq 11, 3) := by decide +kernel
theorem dX11_paste_49 : decode cX11_paste 49 = .ok (.bipush (-6), 2) := by decide +kernel
theorem dX11_paste_51 : decode cX11_paste 51 = .ok (.ireturn, 1) := by decide +kernel
theorem dX12_init_0 : decode cX12_init 0 = .ok (.aload_n 0, 1) := by decide +kernel
theorem dX12_init_1 : decode cX12_init 1 = .ok (.invokespecial 1, 3) := by decide +kernel
theorem dX12_init_4 : decode cX12_init 4 = .ok (.aload_n 0, 1) := by decide +kernel
theorem dX12_init_5 : decode cX12_init 5 = .ok (.iconst 4, 1) := by decide +kernel
theorem dX12_init_6 : decode cX12_init 6 = .ok (.newarray .int, 2) := by decide +kernel
theorem dX12_init_8 : decode cX12_init 8 = .ok (.putfield 7, 3) := by decide +kernel
theorem dX12_init_11 : decode cX12_init 11 = .ok (.aload_n 0, 1) := by decide +kernel
theorem dX12_init_12 : decode cX12_init 12 = .ok (.iconst 4, 1) := by decide +kernel
theorem dX12_init_13 : decode cX12_init 13 = .ok (.newarray .int, 2) := by decide +kernel
theorem dX12_init_15 : decode cX12_init 15 = .ok (.putfield 13, 3) := by decide +kernel
theorem dX12_init_18 : decode cX12_init 18 = .ok (.aload_n 0, 1) := by decide +kernel
theorem dX12_init_19 : decode cX12_init 19 = .ok (.sipush 240, 3) := by decide +kernel
theorem dX12_init_22 : decode cX12_init 22 = .ok (.newarray .long, 2) := by decide +kernel
theorem dX12_init_24 : decode cX12_init 24 = .ok (.putfield 16, 3) := by decide +kernel
theorem dX12_init_27 : decode cX12_init 27 = .ok (.aload_n 0, 1) := by decide +kernel
theorem dX12_init_28 : decode cX12_init 28 = .ok (.bipush 60, 2) := by decide +kernel
theorem dX12_init_30 : decode cX12_init 30 = .ok (.newarray .long, 2) := by decide +kernel
theorem dX12_init_32 : decode cX12_init 32 = .ok (.putfield 20, 3) := by decide +kernel
theorem dX12_init_35 : decode cX12_init 35 = .ok (.aload_n 0, 1) := by decide +kernel
theorem dX12_init_36 : decode cX12_init 36 = .ok (.sipush 1400, 3) := by decide +kernel
theorem dX12_init_39 : decode cX12_init 39 = .ok (.newarray .byte, 2) := by decide +kernel
theorem dX12_init_41 : decode cX12_init 41 = .ok (.putfield 23, 3) := by decide +kernel
theorem dX12_init_44 : decode cX12_init 44 = .ok (.aload_n 0, 1) := by decide +kernel
theorem dX12_init_45 : decode cX12_init 45 = .ok (.iconst (-1), 1) := by decide +kernel
theorem dX12_init_46 : decode cX12_init 46 = .ok (.putfield 27, 3) := by decide +kernel
theorem dX12_init_49 : decode cX12_init 49 = .ok (.aload_n 0, 1) := by decide +kernel
theorem dX12_init_50 : decode cX12_init 50 = .ok (.iconst 5, 1) := by decide +kernel
theorem dX12_init_51 : decode cX12_init 51 = .ok (.newarray .int, 2) := by decide +kernel
theorem dX12_init_53 : decode cX12_init 53 = .ok (.putfield 31, 3) := by decide +kernel
theorem dX12_init_56 : decode cX12_init 56 = .ok (.aload_n 0, 1) := by decide +kernel
theorem dX12_init_57 : decode cX12_init 57 = .ok (.bipush 30, 2) := by decide +kernel
theorem dX12_init_59 : decode cX12_init 59 = .ok (.newarray .int, 2) := by decide +kernel
theorem dX12_init_61 : decode cX12_init 61 = .ok (.putfield 34, 3) := by decide +kernel
theorem dX12_init_64 : decode cX12_init 64 = .ok (.aload_n 0, 1) := by decide +kernel
theorem dX12_init_65 : decode cX12_init 65 = .ok (.sipush 180, 3) := by decide +kernel
theorem dX12_init_68 : decode cX12_init 68 = .ok (.newarray .int, 2) := by decide +kernel
theorem dX12_init_70 : decode cX12_init 70 = .ok (.putfield 37, 3) := by decide +kernel
theorem dX12_init_73 : decode cX12_init 73 = .ok (.aload_n 0, 1) := by decide +kernel
theorem dX12_init_74 : decode cX12_init 74 = .ok (.sipush 140, 3) := by decide +kernel
theorem dX12_init_77 : decode cX12_init 77 = .ok (.newarray .int, 2) := by decide +kernel
theorem dX12_init_79 : decode cX12_init 79 = .ok (.putfield 40, 3) := by decide +kernel
theorem dX12_init_82 : decode cX12_init 82 = .ok (.aload_n 0, 1) := by decide +kernel
theorem dX12_init_83 : decode cX12_init 83 = .ok (.sipush 180, 3) := by decide +kernel
theorem dX12_init_86 : decode cX12_init 86 = .ok (.newarray .boolean, 2) := by decide +kernel
theorem dX12_init_88 : decode cX12_init 88 = .ok (.putfield 43, 3) := by decide +kernel
theorem dX12_init_91 : decode cX12_init 91 = .ok (.aload_n 0, 1) := by decide +kernel
theorem dX12_init_92 : decode cX12_init 92 = .ok (.sipush 800, 3) := by decide +kernel
theorem dX12_init_95 : decode cX12_init 95 = .ok (.newarray .int, 2) := by decide +kernel
theorem dX12_init_97 : decode cX12_init 97 = .ok (.putfield 47, 3) := by decide +kernel
theorem dX12_init_100 : decode cX12_init 100 = .ok (.aload_n 0, 1) := by decide +kernel
theorem dX12_init_101 : decode cX12_init 101 = .ok (.iconst 3, 1) := by decide +kernel
theorem dX12_init_102 : decode cX12_init 102 = .ok (.newarray .boolean, 2) := by decide +kernel
theorem dX12_init_104 : decode cX12_init 104 = .ok (.putfield 50, 3) := by decide +kernel
theorem dX12_init_107 : decode cX12_init 107 = .ok (.aload_n 0, 1) := by decide +kernel
theorem dX12_init_108 : decode cX12_init 108 = .ok (.sipush 420, 3) := by decide +kernel
theorem dX12_init_111 : decode cX12_init 111 = .ok (.newarray .int, 2) := by decide +kernel
theorem dX12_init_113 : decode cX12_init 113 = .ok (.putfield 53, 3) := by decide +kernel
theorem dX12_init_116 : decode cX12_init 116 = .ok (.aload_n 0, 1) := by decide +kernel
theorem dX12_init_117 : decode cX12_init 117 = .ok (.bipush 36, 2) := by decide +kernel
theorem dX12_init_119 : decode cX12_init 119 = .ok (.newarray .int, 2) := by decide +kernel
theorem dX12_init_121 : decode cX12_init 121 = .ok (.putfield 56, 3) := by decide +kernel
theorem dX12_init_124 : decode cX12_init 124 = .ok (.aload_n 0, 1) := by decide +kernel
theorem dX12_init_125 : decode cX12_init 125 = .ok (.sipush 5040, 3) := by decide +kernel
theorem dX12_init_128 : decode cX12_init 128 = .ok (.newarray .int, 2) := by decide +kernel
theorem dX12_init_130 : decode cX12_init 130 = .ok (.putfield 59, 3) := by decide +kernel
theorem dX12_init_133 : decode cX12_init 133 = .ok (.aload_n 0, 1) := by decide +kernel
theorem dX12_init_134 : decode cX12_init 134 = .ok (.sipush 1440, 3) := by decide +kernel
theorem dX12_init_137 : decode cX12_init 137 = .ok (.newarray .int, 2) := by decide +kernel
theorem dX12_init_139 : decode cX12_init 139 = .ok (.putfield 62, 3) := by decide +kernel
theorem dX12_init_142 : decode cX12_init 142 = .ok (.aload_n 0, 1) := by decide +kernel
theorem dX12_init_143 : decode cX12_init 143 = .ok (.sipush 1440, 3) := by decide +kernel
theorem dX12_init_146 : decode cX12_init 146 = .ok (.newarray .int, 2) := by decide +kernel
theorem dX12_init_148 : decode cX12_init 148 = .ok (.putfield 65, 3) := by decide +kernel
theorem dX12_init_151 : decode cX12_init 151 = .ok (.aload_n 0, 1) := by decide +kernel
theorem dX12_init_152 : decode cX12_init 152 = .ok (.sipush 1440, 3) := by decide +kernel
theorem dX12_init_155 : decode cX12_init 155 = .ok (.newarray .int, 2) := by decide +kernel
theorem dX12_init_157 : decode cX12_init 157 = .ok (.putfield 68, 3) := by decide +kernel
theorem dX12_init_160 : decode cX12_init 160 = .ok (.aload_n 0, 1) := by decide +kernel
theorem dX12_init_161 : decode cX12_init 161 = .ok (.bipush 6, 2) := by decide +kernel
theorem dX12_init_163 : decode cX12_init 163 = .ok (.newarray .int, 2) := by decide +kernel
theorem dX12_init_165 : decode cX12_init 165 = .ok (.putfield 71, 3) := by decide +kernel
theorem dX12_init_168 : decode cX12_init 168 = .ok (.iconst 0, 1) := by decide +kernel
theorem dX12_init_169 : decode cX12_init 169 = .ok (.istore_n 1, 1) := by decide +kernel
theorem dX12_init_170 : decode cX12_init 170 = .ok (.iload_n 1, 1) := by decide +kernel
theorem dX12_init_171 : decode cX12_init 171 = .ok (.iconst 4, 1) := by decide +kernel
theorem dX12_init_172 : decode cX12_init 172 = .ok (.if_icmp .ge 16, 3) := by decide +kernel
theorem dX12_init_175 : decode cX12_init 175 = .ok (.aload_n 0, 1) := by decide +kernel
theorem dX12_init_176 : decode cX12_init 176 = .ok (.getfield 7, 3) := by decide +kernel
theorem dX12_init_179 : decode cX12_init 179 = .ok (.iload_n 1, 1) := by decide +kernel
theorem dX12_init_180 : decode cX12_init 180 = .ok (.iconst (-1), 1) := by decide +kernel
theorem dX12_init_181 : decode cX12_init 181 = .ok (.iastore, 1) := by decide +kernel
theorem dX12_init_182 : decode cX12_init 182 = .ok (.iinc 1 1, 3) := by decide +kernel
theorem dX12_init_185 : decode cX12_init 185 = .ok (.goto (-15), 3) := by decide +kernel
theorem dX12_init_188 : decode cX12_init 188 = .ok (.return_, 1) := by decide +kernel
theorem dX12_in_0 : decode cX12_in 0 = .ok (.lload_n 0, 1) := by decide +kernel
theorem dX12_in_1 : decode cX12_in 1 = .ok (.lload_n 2, 1) := by decide +kernel
theorem dX12_in_2 : decode cX12_in 2 = .ok (.lcmp, 1) := by decide +kernel
theorem dX12_in_3 : decode cX12_in 3 = .ok (.ifCond .lt 14, 3) := by decide +kernel
theorem dX12_in_6 : decode cX12_in 6 = .ok (.lload_n 0, 1) := by decide +kernel
theorem dX12_in_7 : decode cX12_in 7 = .ok (.lload 4, 2) := by decide +kernel
theorem dX12_in_9 : decode cX12_in 9 = .ok (.lcmp, 1) := by decide +kernel
theorem dX12_in_10 : decode cX12_in 10 = .ok (.ifCond .gt 7, 3) := by decide +kernel
theorem dX12_in_13 : decode cX12_in 13 = .ok (.iconst 1, 1) := by decide +kernel
theorem dX12_in_14 : decode cX12_in 14 = .ok (.goto 4, 3) := by decide +kernel
theorem dX12_in_17 : decode cX12_in 17 = .ok (.iconst 0, 1) := by decide +kernel
theorem dX12_in_18 : decode cX12_in 18 = .ok (.ireturn, 1) := by decide +kernel
theorem dX12_isSlot_0 : decode cX12_isSlot 0 = .ok (.iload_n 0, 1) := by decide +kernel
theorem dX12_isSlot_1 : decode cX12_isSlot 1 = .ok (.i2l, 1) := by decide +kernel
theorem dX12_isSlot_2 : decode cX12_isSlot 2 = .ok (.lconst 0, 1) := by decide +kernel
theorem dX12_isSlot_3 : decode cX12_isSlot 3 = .ok (.ldc2_w 77, 3) := by decide +kernel
theorem dX12_isSlot_6 : decode cX12_isSlot 6 = .ok (.invokestatic 79, 3) := by decide +kernel
theorem dX12_isSlot_9 : decode cX12_isSlot 9 = .ok (.ireturn, 1) := by decide +kernel
theorem dX12_isHall_0 : decode cX12_isHall 0 = .ok (.aload_n 0, 1) := by decide +kernel
theorem dX12_isHall_1 : decode cX12_isHall 1 = .ok (.getfield 31, 3) := by decide +kernel
theorem dX12_isHall_4 : decode cX12_isHall 4 = .ok (.iconst 0, 1) := by decide +kernel
theorem dX12_isHall_5 : decode cX12_isHall 5 = .ok (.iaload, 1) := by decide +kernel
theorem dX12_isHall_6 : decode cX12_isHall 6 = .ok (.ifCond .le 7, 3) := by decide +kernel
theorem dX12_isHall_13 : decode cX12_isHall 13 = .ok (.iconst 0, 1) := by decide +kernel
theorem dX12_isHall_14 : decode cX12_isHall 14 = .ok (.ireturn, 1) := by decide +kernel
theorem dX12_isRow_0 : decode cX12_isRow 0 = .ok (.lload_n 1, 1) := by decide +kernel
theorem dX12_isRow_1 : decode cX12_isRow 1 = .ok (.lconst 0, 1) := by decide +kernel
theorem dX12_isRow_2 : decode cX12_isRow 2 = .ok (.aload_n 0, 1) := by decide +kernel
theorem dX12_isRow_3 : decode cX12_isRow 3 = .ok (.getfield 34, 3) := by decide +kernel
theorem dX12_isRow_6 : decode cX12_isRow 6 = .ok (.iconst 0, 1) := by decide +kernel
theorem dX12_isRow_7 : decode cX12_isRow 7 = .ok (.iaload, 1) := by decide +kernel
theorem dX12_isRow_8 : decode cX12_isRow 8 = .ok (.i2l, 1) := by decide +kernel
theorem dX12_isRow_9 : decode cX12_isRow 9 = .ok (.lconst 1, 1) := by decide +kernel
theorem dX12_isRow_10 : decode cX12_isRow 10 = .ok (.lsub, 1) := by decide +kernel
theorem dX12_isRow_11 : decode cX12_isRow 11 = .ok (.invokestatic 79, 3) := by decide +kernel
theorem dX12_isRow_14 : decode cX12_isRow 14 = .ok (.ireturn, 1) := by decide +kernel
theorem dX12_isPlace_0 : decode cX12_isPlace 0 = .ok (.lload_n 1, 1) := by decide +kernel
theorem dX12_isPlace_1 : decode cX12_isPlace 1 = .ok (.lconst 0, 1) := by decide +kernel
theorem dX12_isPlace_2 : decode cX12_isPlace 2 = .ok (.aload_n 0, 1) := by decide +kernel
theorem dX12_isPlace_3 : decode cX12_isPlace 3 = .ok (.getfield 34, 3) := by decide +kernel
theorem dX12_isPlace_6 : decode cX12_isPlace 6 = .ok (.iconst 3, 1) := by decide +kernel
theorem dX12_isPlace_7 : decode cX12_isPlace 7 = .ok (.iaload, 1) := by decide +kernel
theorem dX12_isPlace_8 : decode cX12_isPlace 8 = .ok (.i2l, 1) := by decide +kernel
theorem dX12_isPlace_9 : decode cX12_isPlace 9 = .ok (.lconst 1, 1) := by decide +kernel
theorem dX12_isPlace_10 : decode cX12_isPlace 10 = .ok (.lsub, 1) := by decide +kernel
theorem dX12_isPlace_11 : decode cX12_isPlace 11 = .ok (.invokestatic 79, 3) := by decide +kernel
theorem dX12_isPlace_14 : decode cX12_isPlace 14 = .ok (.ireturn, 1) := by decide +kernel
theorem dX12_isExit_0 : decode cX12_isExit 0 = .ok (.lload_n 1, 1) := by decide +kernel
theorem dX12_isExit_1 : decode cX12_isExit 1 = .ok (.lconst 0, 1) := by decide +kernel
theorem dX12_isExit_2 : decode cX12_isExit 2 = .ok (.aload_n 0, 1) := by decide +kernel
theorem dX12_isExit_3 : decode cX12_isExit 3 = .ok (.getfield 34, 3) := by decide +kernel
theorem dX12_isExit_6 : decode cX12_isExit 6 = .ok (.iconst 4, 1) := by decide +kernel
theorem dX12_isExit_7 : decode cX12_isExit 7 = .ok (.iaload, 1) := by decide +kernel
theorem dX12_isExit_8 : decode cX12_isExit 8 = .ok (.i2l, 1) := by decide +kernel
theorem dX12_isExit_9 : decode cX12_isExit 9 = .ok (.lconst 1, 1) := by decide +kernel
theorem dX12_isExit_10 : decode cX12_isExit 10 = .ok (.lsub, 1) := by decide +kernel
theorem dX12_isExit_11 : decode cX12_isExit 11 = .ok (.invokestatic 79, 3) := by decide +kernel
theorem dX12_isExit_14 : decode cX12_isExit 14 = .ok (.ireturn, 1) := by decide +kernel
theorem dX12_isSeat_0 : decode cX12_isSeat 0 = .ok (.aload_n 0, 1) := by decide +kernel
theorem dX12_isSeat_1 : decode cX12_isSeat 1 = .ok (.lload_n 1, 1) := by decide +kernel
theorem dX12_isSeat_2 : decode cX12_isSeat 2 = .ok (.invokevirtual 234, 3) := by decide +kernel
theorem dX12_isSeat_5 : decode cX12_isSeat 5 = .ok (.ifCond .eq 24, 3) := by decide +kernel
theorem dX12_isSeat_29 : decode cX12_isSeat 29 = .ok (.iconst 0, 1) := by decide +kernel
theorem dX12_isSeat_30 : decode cX12_isSeat 30 = .ok (.ireturn, 1) := by decide +kernel
theorem dX12_isAct_0 : decode cX12_isAct 0 = .ok (.aload_n 0, 1) := by decide +kernel
theorem dX12_isAct_1 : decode cX12_isAct 1 = .ok (.invokevirtual 237, 3) := by decide +kernel
theorem dX12_isAct_4 : decode cX12_isAct 4 = .ok (.ifCond .eq 19, 3) := by decide +kernel
theorem dX12_isAct_23 : decode cX12_isAct 23 = .ok (.iconst 0, 1) := by decide +kernel
theorem dX12_isAct_24 : decode cX12_isAct 24 = .ok (.ireturn, 1) := by decide +kernel
theorem dX12_isDraw_0 : decode cX12_isDraw 0 = .ok (.aload_n 0, 1) := by decide +kernel
theorem dX12_isDraw_1 : decode cX12_isDraw 1 = .ok (.iload_n 2, 1) := by decide +kernel
theorem dX12_isDraw_2 : decode cX12_isDraw 2 = .ok (.invokevirtual 273, 3) := by decide +kernel
theorem dX12_isDraw_5 : decode cX12_isDraw 5 = .ok (.ifCond .eq 28, 3) := by decide +kernel
theorem dX12_isDraw_33 : decode cX12_isDraw 33 = .ok (.iconst 0, 1) := by decide +kernel
theorem dX12_isDraw_34 : decode cX12_isDraw 34 = .ok (.ireturn, 1) := by decide +kernel
theorem dX12_whyNotSeen_0 : decode cX12_whyNotSeen 0 = .ok (.iload_n 1, 1) := by decide +kernel
theorem dX12_whyNotSeen_1 : decode cX12_whyNotSeen 1 = .ok (.invokestatic 83, 3) := by decide +kernel
theorem dX12_whyNotSeen_4 : decode cX12_whyNotSeen 4 = .ok (.ifCond .eq 10, 3) := by decide +kernel
theorem dX12_whyNotSeen_7 : decode cX12_whyNotSeen 7 = .ok (.aload_n 0, 1) := by decide +kernel
theorem dX12_whyNotSeen_8 : decode cX12_whyNotSeen 8 = .ok (.invokevirtual 237, 3) := by decide +kernel
theorem dX12_whyNotSeen_11 : decode cX12_whyNotSeen 11 = .ok (.ifCond .ne 6, 3) := by decide +kernel
theorem dX12_whyNotSeen_14 : decode cX12_whyNotSeen 14 = .ok (.bipush (-2), 2) := by decide +kernel
theorem dX12_whyNotSeen_16 : decode cX12_whyNotSeen 16 = .ok (.ireturn, 1) := by decide +kernel
theorem dX12_whyNotFell_0 : decode cX12_whyNotFell 0 = .ok (.iload_n 1, 1) := by decide +kernel
theorem dX12_whyNotFell_1 : decode cX12_whyNotFell 1 = .ok (.invokestatic 83, 3) := by decide +kernel
theorem dX12_whyNotFell_4 : decode cX12_whyNotFell 4 = .ok (.ifCond .eq 10, 3) := by decide +kernel
theorem dX12_whyNotFell_7 : decode cX12_whyNotFell 7 = .ok (.aload_n 0, 1) := by decide +kernel
theorem dX12_whyNotFell_8 : decode cX12_whyNotFell 8 = .ok (.invokevirtual 237, 3) := by decide +kernel
theorem dX12_whyNotFell_11 : decode cX12_whyNotFell 11 = .ok (.ifCond .ne 6, 3) := by decide +kernel
theorem dX12_whyNotFell_14 : decode cX12_whyNotFell 14 = .ok (.bipush (-2), 2) := by decide +kernel
theorem dX12_whyNotFell_16 : decode cX12_whyNotFell 16 = .ok (.ireturn, 1) := by decide +kernel
theorem dX12_place_0 : decode cX12_place 0 = .ok (.aload_n 0, 1) := by decide +kernel
theorem dX12_place_1 : decode cX12_place 1 = .ok (.iconst 0, 1) := by decide +kernel
theorem dX12_place_2 : decode cX12_place 2 = .ok (.putfield 74, 3) := by decide +kernel
theorem dX12_place_5 : decode cX12_place 5 = .ok (.aload_n 0, 1) := by decide +kernel
theorem dX12_place_6 : decode cX12_place 6 = .ok (.iload_n 1, 1) := by decide +kernel
theorem dX12_place_7 : decode cX12_place 7 = .ok (.i2l, 1) := by decide +kernel
theorem dX12_place_8 : decode cX12_place 8 = .ok (.invokevirtual 247, 3) := by decide +kernel
theorem dX12_place_11 : decode cX12_place 11 = .ok (.ifCond .eq 24, 3) := by decide +kernel
theorem dX12_place_35 : decode cX12_place 35 = .ok (.bipush (-2), 2) := by decide +kernel
theorem dX12_place_37 : decode cX12_place 37 = .ok (.ireturn, 1) := by decide +kernel
theorem dX12_exit_0 : decode cX12_exit 0 = .ok (.aload_n 0, 1) := by decide +kernel
theorem dX12_exit_1 : decode cX12_exit 1 = .ok (.iconst 0, 1) := by decide +kernel
theorem dX12_exit_2 : decode cX12_exit 2 = .ok (.putfield 74, 3) := by decide +kernel
theorem dX12_exit_5 : decode cX12_exit 5 = .ok (.aload_n 0, 1) := by decide +kernel
theorem dX12_exit_6 : decode cX12_exit 6 = .ok (.iload_n 1, 1) := by decide +kernel
theorem dX12_exit_7 : decode cX12_exit 7 = .ok (.i2l, 1) := by decide +kernel
theorem dX12_exit_8 : decode cX12_exit 8 = .ok (.invokevirtual 250, 3) := by decide +kernel
theorem dX12_exit_11 : decode cX12_exit 11 = .ok (.ifCond .eq 28, 3) := by decide +kernel
theorem dX12_exit_39 : decode cX12_exit 39 = .ok (.bipush (-2), 2) := by decide +kernel
theorem dX12_exit_41 : decode cX12_exit 41 = .ok (.ireturn, 1) := by decide +kernel
theorem dX12_sits_0 : decode cX12_sits 0 = .ok (.aload_n 0, 1) := by decide +kernel
theorem dX12_sits_1 : decode cX12_sits 1 = .ok (.iconst 0, 1) := by decide +kernel
theorem dX12_sits_2 : decode cX12_sits 2 = .ok (.putfield 74, 3) := by decide +kernel
theorem dX12_sits_5 : decode cX12_sits 5 = .ok (.aload_n 0, 1) := by decide +kernel
theorem dX12_sits_6 : decode cX12_sits 6 = .ok (.iload_n 1, 1) := by decide +kernel
theorem dX12_sits_7 : decode cX12_sits 7 = .ok (.i2l, 1) := by decide +kernel
theorem dX12_sits_8 : decode cX12_sits 8 = .ok (.iload_n 2, 1) := by decide +kernel
theorem dX12_sits_9 : decode cX12_sits 9 = .ok (.i2l, 1) := by decide +kernel
theorem dX12_sits_10 : decode cX12_sits 10 = .ok (.invokevirtual 253, 3) := by decide +kernel
theorem dX12_sits_13 : decode cX12_sits 13 = .ok (.ifCond .eq 25, 3) := by decide +kernel
theorem dX12_sits_38 : decode cX12_sits 38 = .ok (.bipush (-2), 2) := by decide +kernel
theorem dX12_sits_40 : decode cX12_sits 40 = .ok (.ireturn, 1) := by decide +kernel
theorem dX12_at_0 : decode cX12_at 0 = .ok (.aload_n 0, 1) := by decide +kernel
theorem dX12_at_1 : decode cX12_at 1 = .ok (.iconst 0, 1) := by decide +kernel
theorem dX12_at_2 : decode cX12_at 2 = .ok (.putfield 74, 3) := by decide +kernel
theorem dX12_at_5 : decode cX12_at 5 = .ok (.aload_n 0, 1) := by decide +kernel
theorem dX12_at_6 : decode cX12_at 6 = .ok (.iload_n 1, 1) := by decide +kernel
theorem dX12_at_7 : decode cX12_at 7 = .ok (.i2l, 1) := by decide +kernel
theorem dX12_at_8 : decode cX12_at 8 = .ok (.invokevirtual 250, 3) := by decide +kernel
theorem dX12_at_11 : decode cX12_at 11 = .ok (.ifCond .eq 11, 3) := by decide +kernel
theorem dX12_at_22 : decode cX12_at 22 = .ok (.bipush (-2), 2) := by decide +kernel
theorem dX12_at_24 : decode cX12_at 24 = .ok (.ireturn, 1) := by decide +kernel
theorem dX12_who_0 : decode cX12_who 0 = .ok (.aload_n 0, 1) := by decide +kernel
theorem dX12_who_1 : decode cX12_who 1 = .ok (.iconst 0, 1) := by decide +kernel
theorem dX12_who_2 : decode cX12_who 2 = .ok (.putfield 74, 3) := by decide +kernel
theorem dX12_who_5 : decode cX12_who 5 = .ok (.aload_n 0, 1) := by decide +kernel
theorem dX12_who_6 : decode cX12_who 6 = .ok (.iload_n 1, 1) := by decide +kernel
theorem dX12_who_7 : decode cX12_who 7 = .ok (.i2l, 1) := by decide +kernel
theorem dX12_who_8 : decode cX12_who 8 = .ok (.invokevirtual 247, 3) := by decide +kernel
theorem dX12_who_11 : decode cX12_who 11 = .ok (.ifCond .eq 11, 3) := by decide +kernel
theorem dX12_who_22 : decode cX12_who 22 = .ok (.bipush (-2), 2) := by decide +kernel
theorem dX12_who_24 : decode cX12_who 24 = .ok (.ireturn, 1) := by decide +kernel
theorem dX12_behind_0 : decode cX12_behind 0 = .ok (.aload_n 0, 1) := by decide +kernel
theorem dX12_behind_1 : decode cX12_behind 1 = .ok (.iconst 0, 1) := by decide +kernel
theorem dX12_behind_2 : decode cX12_behind 2 = .ok (.putfield 74, 3) := by decide +kernel
theorem dX12_behind_5 : decode cX12_behind 5 = .ok (.aload_n 0, 1) := by decide +kernel
theorem dX12_behind_6 : decode cX12_behind 6 = .ok (.iload_n 1, 1) := by decide +kernel
theorem dX12_behind_7 : decode cX12_behind 7 = .ok (.i2l, 1) := by decide +kernel
theorem dX12_behind_8 : decode cX12_behind 8 = .ok (.invokevirtual 250, 3) := by decide +kernel
theorem dX12_behind_11 : decode cX12_behind 11 = .ok (.ifCond .eq 11, 3) := by decide +kernel
theorem dX12_behind_22 : decode cX12_behind 22 = .ok (.bipush (-2), 2) := by decide +kernel
theorem dX12_behind_24 : decode cX12_behind 24 = .ok (.ireturn, 1) := by decide +kernel
theorem dX12_leads_0 : decode cX12_leads 0 = .ok (.aload_n 0, 1) := by decide +kernel
theorem dX12_leads_1 : decode cX12_leads 1 = .ok (.iconst 0, 1) := by decide +kernel
theorem dX12_leads_2 : decode cX12_leads 2 = .ok (.putfield 74, 3) := by decide +kernel
theorem dX12_leads_5 : decode cX12_leads 5 = .ok (.aload_n 0, 1) := by decide +kernel
theorem dX12_leads_6 : decode cX12_leads 6 = .ok (.iload_n 1, 1) := by decide +kernel
theorem dX12_leads_7 : decode cX12_leads 7 = .ok (.invokevirtual 273, 3) := by decide +kernel
theorem dX12_leads_10 : decode cX12_leads 10 = .ok (.ifCond .eq 11, 3) := by decide +kernel
theorem dX12_leads_21 : decode cX12_leads 21 = .ok (.bipush (-2), 2) := by decide +kernel
theorem dX12_leads_23 : decode cX12_leads 23 = .ok (.ireturn, 1) := by decide +kernel
theorem dX12_doubles_0 : decode cX12_doubles 0 = .ok (.aload_n 0, 1) := by decide +kernel
theorem dX12_doubles_1 : decode cX12_doubles 1 = .ok (.iconst 0, 1) := by decide +kernel
theorem dX12_doubles_2 : decode cX12_doubles 2 = .ok (.putfield 74, 3) := by decide +kernel
theorem dX12_doubles_5 : decode cX12_doubles 5 = .ok (.aload_n 0, 1) := by decide +kernel
theorem dX12_doubles_6 : decode cX12_doubles 6 = .ok (.iload_n 1, 1) := by decide +kernel
theorem dX12_doubles_7 : decode cX12_doubles 7 = .ok (.invokevirtual 273, 3) := by decide +kernel
theorem dX12_doubles_10 : decode cX12_doubles 10 = .ok (.ifCond .ne 6, 3) := by decide +kernel
theorem dX12_doubles_13 : decode cX12_doubles 13 = .ok (.bipush (-2), 2) := by decide +kernel
theorem dX12_doubles_15 : decode cX12_doubles 15 = .ok (.ireturn, 1) := by decide +kernel
theorem dX12_slip_0 : decode cX12_slip 0 = .ok (.aload_n 0, 1) := by decide +kernel
theorem dX12_slip_1 : decode cX12_slip 1 = .ok (.iconst 0, 1) := by decide +kernel
theorem dX12_slip_2 : decode cX12_slip 2 = .ok (.putfield 74, 3) := by decide +kernel
theorem dX12_slip_5 : decode cX12_slip 5 = .ok (.aload_n 0, 1) := by decide +kernel
theorem dX12_slip_6 : decode cX12_slip 6 = .ok (.invokevirtual 237, 3) := by decide +kernel
theorem dX12_slip_9 : decode cX12_slip 9 = .ok (.ifCond .ne 6, 3) := by decide +kernel
theorem dX12_slip_12 : decode cX12_slip 12 = .ok (.bipush (-2), 2) := by decide +kernel
theorem dX12_slip_14 : decode cX12_slip 14 = .ok (.ireturn, 1) := by decide +kernel
theorem dX12_round_0 : decode cX12_round 0 = .ok (.aload_n 0, 1) := by decide +kernel
theorem dX12_round_1 : decode cX12_round 1 = .ok (.iconst 0, 1) := by decide +kernel
theorem dX12_round_2 : decode cX12_round 2 = .ok (.putfield 74, 3) := by decide +kernel
theorem dX12_round_5 : decode cX12_round 5 = .ok (.aload_n 0, 1) := by decide +kernel
theorem dX12_round_6 : decode cX12_round 6 = .ok (.invokevirtual 237, 3) := by decide +kernel
theorem dX12_round_9 : decode cX12_round 9 = .ok (.ifCond .ne 6, 3) := by decide +kernel
theorem dX12_round_12 : decode cX12_round 12 = .ok (.bipush (-2), 2) := by decide +kernel
theorem dX12_round_14 : decode cX12_round 14 = .ok (.ireturn, 1) := by decide +kernel
theorem dX12_again_0 : decode cX12_again 0 = .ok (.aload_n 0, 1) := by decide +kernel
theorem dX12_again_1 : decode cX12_again 1 = .ok (.iconst 0, 1) := by decide +kernel
theorem dX12_again_2 : decode cX12_again 2 = .ok (.putfield 74, 3) := by decide +kernel
theorem dX12_again_5 : decode cX12_again 5 = .ok (.aload_n 0, 1) := by decide +kernel
theorem dX12_again_6 : decode cX12_again 6 = .ok (.invokevirtual 237, 3) := by decide +kernel
theorem dX12_again_9 : decode cX12_again 9 = .ok (.ifCond .ne 6, 3) := by decide +kernel
theorem dX12_again_12 : decode cX12_again 12 = .ok (.bipush (-2), 2) := by decide +kernel
theorem dX12_again_14 : decode cX12_again 14 = .ok (.ireturn, 1) := by decide +kernel
theorem dX12_next__0 : decode cX12_next_ 0 = .ok (.aload_n 0, 1) := by decide +kernel
theorem dX12_next__1 : decode cX12_next_ 1 = .ok (.iconst 0, 1) := by decide +kernel
theorem dX12_next__2 : decode cX12_next_ 2 = .ok (.putfield 74, 3) := by decide +kernel
theorem dX12_next__5 : decode cX12_next_ 5 = .ok (.aload_n 0, 1) := by decide +kernel
theorem dX12_next__6 : decode cX12_next_ 6 = .ok (.iload_n 1, 1) := by decide +kernel
theorem dX12_next__7 : decode cX12_next_ 7 = .ok (.i2l, 1) := by decide +kernel
theorem dX12_next__8 : decode cX12_next_ 8 = .ok (.invokevirtual 250, 3) := by decide +kernel
theorem dX12_next__11 : decode cX12_next_ 11 = .ok (.ifCond .eq 20, 3) := by decide +kernel
theorem dX12_next__31 : decode cX12_next_ 31 = .ok (.bipush (-2), 2) := by decide +kernel
theorem dX12_next__33 : decode cX12_next_ 33 = .ok (.ireturn, 1) := by decide +kernel
theorem dX12_sees_0 : decode cX12_sees 0 = .ok (.aload_n 0, 1) := by decide +kernel
theorem dX12_sees_1 : decode cX12_sees 1 = .ok (.iconst 0, 1) := by decide +kernel
theorem dX12_sees_2 : decode cX12_sees 2 = .ok (.putfield 74, 3) := by decide +kernel
theorem dX12_sees_5 : decode cX12_sees 5 = .ok (.aload_n 0, 1) := by decide +kernel
theorem dX12_sees_6 : decode cX12_sees 6 = .ok (.iload_n 1, 1) := by decide +kernel
theorem dX12_sees_7 : decode cX12_sees 7 = .ok (.i2l, 1) := by decide +kernel
theorem dX12_sees_8 : decode cX12_sees 8 = .ok (.invokevirtual 250, 3) := by decide +kernel
theorem dX12_sees_11 : decode cX12_sees 11 = .ok (.ifCond .ne 6, 3) := by decide +kernel
theorem dX12_sees_14 : decode cX12_sees 14 = .ok (.bipush (-2), 2) := by decide +kernel
theorem dX12_sees_16 : decode cX12_sees 16 = .ok (.ireturn, 1) := by decide +kernel
theorem dX12_far_0 : decode cX12_far 0 = .ok (.aload_n 0, 1) := by decide +kernel
theorem dX12_far_1 : decode cX12_far 1 = .ok (.iconst 0, 1) := by decide +kernel
theorem dX12_far_2 : decode cX12_far 2 = .ok (.putfield 74, 3) := by decide +kernel
theorem dX12_far_5 : decode cX12_far 5 = .ok (.aload_n 0, 1) := by decide +kernel
theorem dX12_far_6 : decode cX12_far 6 = .ok (.iload_n 1, 1) := by decide +kernel
theorem dX12_far_7 : decode cX12_far 7 = .ok (.i2l, 1) := by decide +kernel
theorem dX12_far_8 : decode cX12_far 8 = .ok (.iload_n 2, 1) := by decide +kernel
theorem dX12_far_9 : decode cX12_far 9 = .ok (.i2l, 1) := by decide +kernel
theorem dX12_far_10 : decode cX12_far 10 = .ok (.invokevirtual 253, 3) := by decide +kernel
theorem dX12_far_13 : decode cX12_far 13 = .ok (.ifCond .eq 11, 3) := by decide +kernel
theorem dX12_far_24 : decode cX12_far 24 = .ok (.bipush (-2), 2) := by decide +kernel
theorem dX12_far_26 : decode cX12_far 26 = .ok (.ireturn, 1) := by decide +kernel
theorem dX12_by_0 : decode cX12_by 0 = .ok (.aload_n 0, 1) := by decide +kernel
theorem dX12_by_1 : decode cX12_by 1 = .ok (.iconst 0, 1) := by decide +kernel
theorem dX12_by_2 : decode cX12_by 2 = .ok (.putfield 74, 3) := by decide +kernel
theorem dX12_by_5 : decode cX12_by 5 = .ok (.aload_n 0, 1) := by decide +kernel
theorem dX12_by_6 : decode cX12_by 6 = .ok (.iload_n 1, 1) := by decide +kernel
theorem dX12_by_7 : decode cX12_by 7 = .ok (.i2l, 1) := by decide +kernel
theorem dX12_by_8 : decode cX12_by 8 = .ok (.iload_n 2, 1) := by decide +kernel
theorem dX12_by_9 : decode cX12_by 9 = .ok (.i2l, 1) := by decide +kernel
theorem dX12_by_10 : decode cX12_by 10 = .ok (.invokevirtual 253, 3) := by decide +kernel
theorem dX12_by_13 : decode cX12_by 13 = .ok (.ifCond .eq 11, 3) := by decide +kernel
theorem dX12_by_24 : decode cX12_by 24 = .ok (.bipush (-2), 2) := by decide +kernel
theorem dX12_by_26 : decode cX12_by 26 = .ok (.ireturn, 1) := by decide +kernel
theorem dX12_falls_0 : decode cX12_falls 0 = .ok (.aload_n 0, 1) := by decide +kernel
theorem dX12_falls_1 : decode cX12_falls 1 = .ok (.iconst 0, 1) := by decide +kernel
theorem dX12_falls_2 : decode cX12_falls 2 = .ok (.putfield 74, 3) := by decide +kernel
theorem dX12_falls_5 : decode cX12_falls 5 = .ok (.aload_n 0, 1) := by decide +kernel
theorem dX12_falls_6 : decode cX12_falls 6 = .ok (.iload_n 1, 1) := by decide +kernel
theorem dX12_falls_7 : decode cX12_falls 7 = .ok (.i2l, 1) := by decide +kernel
theorem dX12_falls_8 : decode cX12_falls 8 = .ok (.iload_n 2, 1) := by decide +kernel
theorem dX12_falls_9 : decode cX12_falls 9 = .ok (.i2l, 1) := by decide +kernel
theorem dX12_falls_10 : decode cX12_falls 10 = .ok (.invokevirtual 253, 3) := by decide +kernel
theorem dX12_falls_13 : decode cX12_falls 13 = .ok (.ifCond .eq 11, 3) := by decide +kernel
theorem dX12_falls_24 : decode cX12_falls 24 = .ok (.bipush (-2), 2) := by decide +kernel
theorem dX12_falls_26 : decode cX12_falls 26 = .ok (.ireturn, 1) := by decide +kernel
theorem dX12_best_0 : decode cX12_best 0 = .ok (.aload_n 0, 1) := by decide +kernel
theorem dX12_best_1 : decode cX12_best 1 = .ok (.iconst 0, 1) := by decide +kernel
theorem dX12_best_2 : decode cX12_best 2 = .ok (.putfield 74, 3) := by decide +kernel
theorem dX12_best_5 : decode cX12_best 5 = .ok (.aload_n 0, 1) := by decide +kernel
theorem dX12_best_6 : decode cX12_best 6 = .ok (.iload_n 1, 1) := by decide +kernel
theorem dX12_best_7 : decode cX12_best 7 = .ok (.invokevirtual 273, 3) := by decide +kernel
theorem dX12_best_10 : decode cX12_best 10 = .ok (.ifCond .ne 6, 3) := by decide +kernel
theorem dX12_best_13 : decode cX12_best 13 = .ok (.bipush (-2), 2) := by decide +kernel
theorem dX12_best_15 : decode cX12_best 15 = .ok (.ireturn, 1) := by decide +kernel
theorem dX12_worst_0 : decode cX12_worst 0 = .ok (.aload_n 0, 1) := by decide +kernel
theorem dX12_worst_1 : decode cX12_worst 1 = .ok (.iconst 0, 1) := by decide +kernel
theorem dX12_worst_2 : decode cX12_worst 2 = .ok (.putfield 74, 3) := by decide +kernel
theorem dX12_worst_5 : decode cX12_worst 5 = .ok (.aload_n 0, 1) := by decide +kernel
theorem dX12_worst_6 : decode cX12_worst 6 = .ok (.iload_n 1, 1) := by decide +kernel
theorem dX12_worst_7 : decode cX12_worst 7 = .ok (.invokevirtual 273, 3) := by decide +kernel
theorem dX12_worst_10 : decode cX12_worst 10 = .ok (.ifCond .ne 6, 3) := by decide +kernel
theorem dX12_worst_13 : decode cX12_worst 13 = .ok (.bipush (-2), 2) := by decide +kernel
theorem dX12_worst_15 : decode cX12_worst 15 = .ok (.ireturn, 1) := by decide +kernel
theorem dX12_kept_0 : decode cX12_kept 0 = .ok (.aload_n 0, 1) := by decide +kernel
theorem dX12_kept_1 : decode cX12_kept 1 = .ok (.iconst 0, 1) := by decide +kernel
theorem dX12_kept_2 : decode cX12_kept 2 = .ok (.putfield 74, 3) := by decide +kernel
theorem dX12_kept_5 : decode cX12_kept 5 = .ok (.aload_n 0, 1) := by decide +kernel
theorem dX12_kept_6 : decode cX12_kept 6 = .ok (.iload_n 1, 1) := by decide +kernel
theorem dX12_kept_7 : decode cX12_kept 7 = .ok (.invokevirtual 273, 3) := by decide +kernel
theorem dX12_kept_10 : decode cX12_kept 10 = .ok (.ifCond .ne 6, 3) := by decide +kernel
theorem dX12_kept_13 : decode cX12_kept 13 = .ok (.bipush (-2), 2) := by decide +kernel
theorem dX12_kept_15 : decode cX12_kept 15 = .ok (.ireturn, 1) := by decide +kernel
theorem dX12_breaks_0 : decode cX12_breaks 0 = .ok (.aload_n 0, 1) := by decide +kernel
theorem dX12_breaks_1 : decode cX12_breaks 1 = .ok (.iconst 0, 1) := by decide +kernel
theorem dX12_breaks_2 : decode cX12_breaks 2 = .ok (.putfield 74, 3) := by decide +kernel
theorem dX12_breaks_5 : decode cX12_breaks 5 = .ok (.aload_n 0, 1) := by decide +kernel
theorem dX12_breaks_6 : decode cX12_breaks 6 = .ok (.iload_n 1, 1) := by decide +kernel
theorem dX12_breaks_7 : decode cX12_breaks 7 = .ok (.invokevirtual 273, 3) := by decide +kernel
theorem dX12_breaks_10 : decode cX12_breaks 10 = .ok (.ifCond .ne 6, 3) := by decide +kernel
theorem dX12_breaks_13 : decode cX12_breaks 13 = .ok (.bipush (-2), 2) := by decide +kernel
theorem dX12_breaks_15 : decode cX12_breaks 15 = .ok (.ireturn, 1) := by decide +kernel
theorem dX12_screws_0 : decode cX12_screws 0 = .ok (.aload_n 0, 1) := by decide +kernel
theorem dX12_screws_1 : decode cX12_screws 1 = .ok (.iconst 0, 1) := by decide +kernel
theorem dX12_screws_2 : decode cX12_screws 2 = .ok (.putfield 74, 3) := by decide +kernel
theorem dX12_screws_5 : decode cX12_screws 5 = .ok (.aload_n 0, 1) := by decide +kernel
theorem dX12_screws_6 : decode cX12_screws 6 = .ok (.iload_n 1, 1) := by decide +kernel
theorem dX12_screws_7 : decode cX12_screws 7 = .ok (.invokevirtual 273, 3) := by decide +kernel
theorem dX12_screws_10 : decode cX12_screws 10 = .ok (.ifCond .ne 6, 3) := by decide +kernel
theorem dX12_screws_13 : decode cX12_screws 13 = .ok (.bipush (-2), 2) := by decide +kernel
theorem dX12_screws_15 : decode cX12_screws 15 = .ok (.ireturn, 1) := by decide +kernel
theorem dX12_lawful_0 : decode cX12_lawful 0 = .ok (.aload_n 0, 1) := by decide +kernel
theorem dX12_lawful_1 : decode cX12_lawful 1 = .ok (.iconst 0, 1) := by decide +kernel
theorem dX12_lawful_2 : decode cX12_lawful 2 = .ok (.putfield 74, 3) := by decide +kernel
theorem dX12_lawful_5 : decode cX12_lawful 5 = .ok (.aload_n 0, 1) := by decide +kernel
theorem dX12_lawful_6 : decode cX12_lawful 6 = .ok (.invokevirtual 237, 3) := by decide +kernel
theorem dX12_lawful_9 : decode cX12_lawful 9 = .ok (.ifCond .ne 6, 3) := by decide +kernel
theorem dX12_lawful_12 : decode cX12_lawful 12 = .ok (.bipush (-2), 2) := by decide +kernel
theorem dX12_lawful_14 : decode cX12_lawful 14 = .ok (.ireturn, 1) := by decide +kernel
theorem dX12_out_0 : decode cX12_out 0 = .ok (.aload_n 0, 1) := by decide +kernel
theorem dX12_out_1 : decode cX12_out 1 = .ok (.iconst 0, 1) := by decide +kernel
theorem dX12_out_2 : decode cX12_out 2 = .ok (.putfield 74, 3) := by decide +kernel
theorem dX12_out_5 : decode cX12_out 5 = .ok (.aload_n 0, 1) := by decide +kernel
theorem dX12_out_6 : decode cX12_out 6 = .ok (.iload_n 1, 1) := by decide +kernel
theorem dX12_out_7 : decode cX12_out 7 = .ok (.invokevirtual 273, 3) := by decide +kernel
theorem dX12_out_10 : decode cX12_out 10 = .ok (.ifCond .eq 15, 3) := by decide +kernel
theorem dX12_out_25 : decode cX12_out 25 = .ok (.bipush (-2), 2) := by decide +kernel
theorem dX12_out_27 : decode cX12_out 27 = .ok (.ireturn, 1) := by decide +kernel
theorem dX12_soonest_0 : decode cX12_soonest 0 = .ok (.aload_n 0, 1) := by decide +kernel
theorem dX12_soonest_1 : decode cX12_soonest 1 = .ok (.iconst 0, 1) := by decide +kernel
theorem dX12_soonest_2 : decode cX12_soonest 2 = .ok (.putfield 74, 3) := by decide +kernel
theorem dX12_soonest_5 : decode cX12_soonest 5 = .ok (.aload_n 0, 1) := by decide +kernel
theorem dX12_soonest_6 : decode cX12_soonest 6 = .ok (.iload_n 1, 1) := by decide +kernel
theorem dX12_soonest_7 : decode cX12_soonest 7 = .ok (.invokevirtual 273, 3) := by decide +kernel
theorem dX12_soonest_10 : decode cX12_soonest 10 = .ok (.ifCond .ne 6, 3) := by decide +kernel
theorem dX12_soonest_13 : decode cX12_soonest 13 = .ok (.bipush (-2), 2) := by decide +kernel
theorem dX12_soonest_15 : decode cX12_soonest 15 = .ok (.ireturn, 1) := by decide +kernel
theorem dX12_quickest_0 : decode cX12_quickest 0 = .ok (.aload_n 0, 1) := by decide +kernel
theorem dX12_quickest_1 : decode cX12_quickest 1 = .ok (.iconst 0, 1) := by decide +kernel
theorem dX12_quickest_2 : decode cX12_quickest 2 = .ok (.putfield 74, 3) := by decide +kernel
theorem dX12_quickest_5 : decode cX12_quickest 5 = .ok (.aload_n 0, 1) := by decide +kernel
theorem dX12_quickest_6 : decode cX12_quickest 6 = .ok (.invokevirtual 237, 3) := by decide +kernel
theorem dX12_quickest_9 : decode cX12_quickest 9 = .ok (.ifCond .eq 15, 3) := by decide +kernel
theorem dX12_quickest_24 : decode cX12_quickest 24 = .ok (.bipush (-2), 2) := by decide +kernel
theorem dX12_quickest_26 : decode cX12_quickest 26 = .ok (.ireturn, 1) := by decide +kernel
theorem dX12_wider_0 : decode cX12_wider 0 = .ok (.aload_n 0, 1) := by decide +kernel
theorem dX12_wider_1 : decode cX12_wider 1 = .ok (.iconst 0, 1) := by decide +kernel
theorem dX12_wider_2 : decode cX12_wider 2 = .ok (.putfield 74, 3) := by decide +kernel
theorem dX12_wider_5 : decode cX12_wider 5 = .ok (.aload_n 0, 1) := by decide +kernel
theorem dX12_wider_6 : decode cX12_wider 6 = .ok (.iload_n 1, 1) := by decide +kernel
theorem dX12_wider_7 : decode cX12_wider 7 = .ok (.invokevirtual 273, 3) := by decide +kernel
theorem dX12_wider_10 : decode cX12_wider 10 = .ok (.ifCond .eq 24, 3) := by decide +kernel
theorem dX12_wider_34 : decode cX12_wider 34 = .ok (.bipush (-2), 2) := by decide +kernel
theorem dX12_wider_36 : decode cX12_wider 36 = .ok (.ireturn, 1) := by decide +kernel
theorem dX12_stand_0 : decode cX12_stand 0 = .ok (.aload_n 0, 1) := by decide +kernel
theorem dX12_stand_1 : decode cX12_stand 1 = .ok (.iconst 0, 1) := by decide +kernel
theorem dX12_stand_2 : decode cX12_stand 2 = .ok (.putfield 74, 3) := by decide +kernel
theorem dX12_stand_5 : decode cX12_stand 5 = .ok (.aload_n 0, 1) := by decide +kernel
theorem dX12_stand_6 : decode cX12_stand 6 = .ok (.invokevirtual 237, 3) := by decide +kernel
theorem dX12_stand_9 : decode cX12_stand 9 = .ok (.ifCond .eq 15, 3) := by decide +kernel
theorem dX12_stand_24 : decode cX12_stand 24 = .ok (.bipush (-2), 2) := by decide +kernel
theorem dX12_stand_26 : decode cX12_stand 26 = .ok (.ireturn, 1) := by decide +kernel
theorem dX12_stands_0 : decode cX12_stands 0 = .ok (.aload_n 0, 1) := by decide +kernel
theorem dX12_stands_1 : decode cX12_stands 1 = .ok (.iconst 0, 1) := by decide +kernel
theorem dX12_stands_2 : decode cX12_stands 2 = .ok (.putfield 74, 3) := by decide +kernel
theorem dX12_stands_5 : decode cX12_stands 5 = .ok (.aload_n 0, 1) := by decide +kernel
theorem dX12_stands_6 : decode cX12_stands 6 = .ok (.invokevirtual 237, 3) := by decide +kernel
theorem dX12_stands_9 : decode cX12_stands 9 = .ok (.ifCond .eq 23, 3) := by decide +kernel
theorem dX12_stands_32 : decode cX12_stands 32 = .ok (.bipush (-2), 2) := by decide +kernel
theorem dX12_stands_34 : decode cX12_stands 34 = .ok (.ireturn, 1) := by decide +kernel
theorem dX12_needs_0 : decode cX12_needs 0 = .ok (.aload_n 0, 1) := by decide +kernel
theorem dX12_needs_1 : decode cX12_needs 1 = .ok (.iconst 0, 1) := by decide +kernel
theorem dX12_needs_2 : decode cX12_needs 2 = .ok (.putfield 74, 3) := by decide +kernel
theorem dX12_needs_5 : decode cX12_needs 5 = .ok (.aload_n 0, 1) := by decide +kernel
theorem dX12_needs_6 : decode cX12_needs 6 = .ok (.invokevirtual 237, 3) := by decide +kernel
theorem dX12_needs_9 : decode cX12_needs 9 = .ok (.ifCond .ne 6, 3) := by decide +kernel
theorem dX12_needs_12 : decode cX12_needs 12 = .ok (.bipush (-2), 2) := by decide +kernel
theorem dX12_needs_14 : decode cX12_needs 14 = .ok (.ireturn, 1) := by decide +kernel
theorem dX12_wind_0 : decode cX12_wind 0 = .ok (.aload_n 0, 1) := by decide +kernel
theorem dX12_wind_1 : decode cX12_wind 1 = .ok (.iconst 0, 1) := by decide +kernel
theorem dX12_wind_2 : decode cX12_wind 2 = .ok (.putfield 74, 3) := by decide +kernel
theorem dX12_wind_5 : decode cX12_wind 5 = .ok (.aload_n 0, 1) := by decide +kernel
theorem dX12_wind_6 : decode cX12_wind 6 = .ok (.iload_n 1, 1) := by decide +kernel
theorem dX12_wind_7 : decode cX12_wind 7 = .ok (.invokevirtual 273, 3) := by decide +kernel
theorem dX12_wind_10 : decode cX12_wind 10 = .ok (.ifCond .ne 6, 3) := by decide +kernel
theorem dX12_wind_13 : decode cX12_wind 13 = .ok (.bipush (-2), 2) := by decide +kernel
theorem dX12_wind_15 : decode cX12_wind 15 = .ok (.ireturn, 1) := by decide +kernel
theorem dX12_calmest_0 : decode cX12_calmest 0 = .ok (.aload_n 0, 1) := by decide +kernel
theorem dX12_calmest_1 : decode cX12_calmest 1 = .ok (.iconst 0, 1) := by decide +kernel
theorem dX12_calmest_2 : decode cX12_calmest 2 = .ok (.putfield 74, 3) := by decide +kernel
theorem dX12_calmest_5 : decode cX12_calmest 5 = .ok (.aload_n 0, 1) := by decide +kernel
theorem dX12_calmest_6 : decode cX12_calmest 6 = .ok (.invokevirtual 237, 3) := by decide +kernel
theorem dX12_calmest_9 : decode cX12_calmest 9 = .ok (.ifCond .eq 15, 3) := by decide +kernel
theorem dX12_calmest_24 : decode cX12_calmest 24 = .ok (.bipush (-2), 2) := by decide +kernel
theorem dX12_calmest_26 : decode cX12_calmest 26 = .ok (.ireturn, 1) := by decide +kernel
theorem dX12_seen_0 : decode cX12_seen 0 = .ok (.aload_n 0, 1) := by decide +kernel
theorem dX12_seen_1 : decode cX12_seen 1 = .ok (.iconst 0, 1) := by decide +kernel
theorem dX12_seen_2 : decode cX12_seen 2 = .ok (.putfield 74, 3) := by decide +kernel
theorem dX12_seen_5 : decode cX12_seen 5 = .ok (.aload_n 0, 1) := by decide +kernel
theorem dX12_seen_6 : decode cX12_seen 6 = .ok (.iload_n 1, 1) := by decide +kernel
theorem dX12_seen_7 : decode cX12_seen 7 = .ok (.invokevirtual 386, 3) := by decide +kernel
theorem dX12_seen_10 : decode cX12_seen 10 = .ok (.istore_n 2, 1) := by decide +kernel
theorem dX12_seen_11 : decode cX12_seen 11 = .ok (.iload_n 2, 1) := by decide +kernel
theorem dX12_seen_12 : decode cX12_seen 12 = .ok (.ifCond .eq 6, 3) := by decide +kernel
theorem dX12_seen_15 : decode cX12_seen 15 = .ok (.iload_n 2, 1) := by decide +kernel
theorem dX12_seen_16 : decode cX12_seen 16 = .ok (.i2l, 1) := by decide +kernel
theorem dX12_seen_17 : decode cX12_seen 17 = .ok (.lreturn, 1) := by decide +kernel
theorem dX12_ask_0 : decode cX12_ask 0 = .ok (.aload_n 0, 1) := by decide +kernel
theorem dX12_ask_1 : decode cX12_ask 1 = .ok (.iconst 0, 1) := by decide +kernel
theorem dX12_ask_2 : decode cX12_ask 2 = .ok (.putfield 74, 3) := by decide +kernel
theorem dX12_ask_5 : decode cX12_ask 5 = .ok (.aload_n 0, 1) := by decide +kernel
theorem dX12_ask_6 : decode cX12_ask 6 = .ok (.iload_n 1, 1) := by decide +kernel
theorem dX12_ask_7 : decode cX12_ask 7 = .ok (.invokevirtual 386, 3) := by decide +kernel
theorem dX12_ask_10 : decode cX12_ask 10 = .ok (.istore_n 2, 1) := by decide +kernel
theorem dX12_ask_11 : decode cX12_ask 11 = .ok (.iload_n 2, 1) := by decide +kernel
theorem dX12_ask_12 : decode cX12_ask 12 = .ok (.ifCond .eq 7, 3) := by decide +kernel
theorem dX12_ask_15 : decode cX12_ask 15 = .ok (.iload_n 2, 1) := by decide +kernel
theorem dX12_ask_16 : decode cX12_ask 16 = .ok (.goto 8, 3) := by decide +kernel
theorem dX12_ask_24 : decode cX12_ask 24 = .ok (.ireturn, 1) := by decide +kernel
theorem dX12_leaves_0 : decode cX12_leaves 0 = .ok (.aload_n 0, 1) := by decide +kernel
theorem dX12_leaves_1 : decode cX12_leaves 1 = .ok (.iconst 0, 1) := by decide +kernel
theorem dX12_leaves_2 : decode cX12_leaves 2 = .ok (.putfield 74, 3) := by decide +kernel
theorem dX12_leaves_5 : decode cX12_leaves 5 = .ok (.aload_n 0, 1) := by decide +kernel
theorem dX12_leaves_6 : decode cX12_leaves 6 = .ok (.iload_n 1, 1) := by decide +kernel
theorem dX12_leaves_7 : decode cX12_leaves 7 = .ok (.invokevirtual 386, 3) := by decide +kernel
theorem dX12_leaves_10 : decode cX12_leaves 10 = .ok (.istore_n 2, 1) := by decide +kernel
theorem dX12_leaves_11 : decode cX12_leaves 11 = .ok (.iload_n 2, 1) := by decide +kernel
theorem dX12_leaves_12 : decode cX12_leaves 12 = .ok (.ifCond .eq 5, 3) := by decide +kernel
theorem dX12_leaves_15 : decode cX12_leaves 15 = .ok (.iload_n 2, 1) := by decide +kernel
theorem dX12_leaves_16 : decode cX12_leaves 16 = .ok (.ireturn, 1) := by decide +kernel
theorem dX12_fell_0 : decode cX12_fell 0 = .ok (.aload_n 0, 1) := by decide +kernel
theorem dX12_fell_1 : decode cX12_fell 1 = .ok (.iconst 0, 1) := by decide +kernel
theorem dX12_fell_2 : decode cX12_fell 2 = .ok (.putfield 74, 3) := by decide +kernel
theorem dX12_fell_5 : decode cX12_fell 5 = .ok (.aload_n 0, 1) := by decide +kernel
theorem dX12_fell_6 : decode cX12_fell 6 = .ok (.iload_n 1, 1) := by decide +kernel
theorem dX12_fell_7 : decode cX12_fell 7 = .ok (.invokevirtual 398, 3) := by decide +kernel
theorem dX12_fell_10 : decode cX12_fell 10 = .ok (.istore_n 2, 1) := by decide +kernel
theorem dX12_fell_11 : decode cX12_fell 11 = .ok (.iload_n 2, 1) := by decide +kernel
theorem dX12_fell_12 : decode cX12_fell 12 = .ok (.ifCond .eq 6, 3) := by decide +kernel
theorem dX12_fell_15 : decode cX12_fell 15 = .ok (.iload_n 2, 1) := by decide +kernel
theorem dX12_fell_16 : decode cX12_fell 16 = .ok (.i2l, 1) := by decide +kernel
theorem dX12_fell_17 : decode cX12_fell 17 = .ok (.lreturn, 1) := by decide +kernel
theorem dX12_many_0 : decode cX12_many 0 = .ok (.aload_n 0, 1) := by decide +kernel
theorem dX12_many_1 : decode cX12_many 1 = .ok (.iconst 0, 1) := by decide +kernel
theorem dX12_many_2 : decode cX12_many 2 = .ok (.putfield 74, 3) := by decide +kernel
theorem dX12_many_5 : decode cX12_many 5 = .ok (.aload_n 0, 1) := by decide +kernel
theorem dX12_many_6 : decode cX12_many 6 = .ok (.iload_n 1, 1) := by decide +kernel
theorem dX12_many_7 : decode cX12_many 7 = .ok (.invokevirtual 398, 3) := by decide +kernel
theorem dX12_many_10 : decode cX12_many 10 = .ok (.istore_n 2, 1) := by decide +kernel
theorem dX12_many_11 : decode cX12_many 11 = .ok (.iload_n 2, 1) := by decide +kernel
theorem dX12_many_12 : decode cX12_many 12 = .ok (.ifCond .eq 5, 3) := by decide +kernel
theorem dX12_many_15 : decode cX12_many 15 = .ok (.iload_n 2, 1) := by decide +kernel
theorem dX12_many_16 : decode cX12_many 16 = .ok (.ireturn, 1) := by decide +kernel
theorem dX12_sure_0 : decode cX12_sure 0 = .ok (.aload_n 0, 1) := by decide +kernel
theorem dX12_sure_1 : decode cX12_sure 1 = .ok (.iconst 0, 1) := by decide +kernel
theorem dX12_sure_2 : decode cX12_sure 2 = .ok (.putfield 74, 3) := by decide +kernel
theorem dX12_sure_5 : decode cX12_sure 5 = .ok (.aload_n 0, 1) := by decide +kernel
theorem dX12_sure_6 : decode cX12_sure 6 = .ok (.iload_n 2, 1) := by decide +kernel
theorem dX12_sure_7 : decode cX12_sure 7 = .ok (.i2l, 1) := by decide +kernel
theorem dX12_sure_8 : decode cX12_sure 8 = .ok (.invokevirtual 250, 3) := by decide +kernel
theorem dX12_sure_11 : decode cX12_sure 11 = .ok (.ifCond .eq 11, 3) := by decide +kernel
theorem dX12_sure_22 : decode cX12_sure 22 = .ok (.bipush (-2), 2) := by decide +kernel
theorem dX12_sure_24 : decode cX12_sure 24 = .ok (.istore_n 3, 1) := by decide +kernel
theorem dX12_sure_25 : decode cX12_sure 25 = .ok (.iload_n 3, 1) := by decide +kernel
theorem dX12_sure_26 : decode cX12_sure 26 = .ok (.ifCond .eq 5, 3) := by decide +kernel
theorem dX12_sure_29 : decode cX12_sure 29 = .ok (.iload_n 3, 1) := by decide +kernel
theorem dX12_sure_30 : decode cX12_sure 30 = .ok (.ireturn, 1) := by decide +kernel
theorem dX12_known_0 : decode cX12_known 0 = .ok (.aload_n 0, 1) := by decide +kernel
theorem dX12_known_1 : decode cX12_known 1 = .ok (.iconst 0, 1) := by decide +kernel
theorem dX12_known_2 : decode cX12_known 2 = .ok (.putfield 74, 3) := by decide +kernel
theorem dX12_known_5 : decode cX12_known 5 = .ok (.aload_n 0, 1) := by decide +kernel
theorem dX12_known_6 : decode cX12_known 6 = .ok (.iload_n 1, 1) := by decide +kernel
theorem dX12_known_7 : decode cX12_known 7 = .ok (.i2l, 1) := by decide +kernel
theorem dX12_known_8 : decode cX12_known 8 = .ok (.iload_n 2, 1) := by decide +kernel
theorem dX12_known_9 : decode cX12_known 9 = .ok (.i2l, 1) := by decide +kernel
theorem dX12_known_10 : decode cX12_known 10 = .ok (.invokevirtual 253, 3) := by decide +kernel
theorem dX12_known_13 : decode cX12_known 13 = .ok (.ifCond .eq 15, 3) := by decide +kernel
theorem dX12_known_28 : decode cX12_known 28 = .ok (.bipush (-2), 2) := by decide +kernel
theorem dX12_known_30 : decode cX12_known 30 = .ok (.ireturn, 1) := by decide +kernel
theorem dX12_blind_0 : decode cX12_blind 0 = .ok (.aload_n 0, 1) := by decide +kernel
theorem dX12_blind_1 : decode cX12_blind 1 = .ok (.iconst 0, 1) := by decide +kernel
theorem dX12_blind_2 : decode cX12_blind 2 = .ok (.putfield 74, 3) := by decide +kernel
theorem dX12_blind_5 : decode cX12_blind 5 = .ok (.aload_n 0, 1) := by decide +kernel
theorem dX12_blind_6 : decode cX12_blind 6 = .ok (.iload_n 1, 1) := by decide +kernel
theorem dX12_blind_7 : decode cX12_blind 7 = .ok (.i2l, 1) := by decide +kernel
theorem dX12_blind_8 : decode cX12_blind 8 = .ok (.iload_n 2, 1) := by decide +kernel
theorem dX12_blind_9 : decode cX12_blind 9 = .ok (.i2l, 1) := by decide +kernel
theorem dX12_blind_10 : decode cX12_blind 10 = .ok (.invokevirtual 253, 3) := by decide +kernel
theorem dX12_blind_13 : decode cX12_blind 13 = .ok (.ifCond .eq 24, 3) := by decide +kernel
theorem dX12_blind_37 : decode cX12_blind 37 = .ok (.bipush (-2), 2) := by decide +kernel
theorem dX12_blind_39 : decode cX12_blind 39 = .ok (.ireturn, 1) := by decide +kernel
theorem dX12_goes_0 : decode cX12_goes 0 = .ok (.aload_n 0, 1) := by decide +kernel
theorem dX12_goes_1 : decode cX12_goes 1 = .ok (.iconst 0, 1) := by decide +kernel
theorem dX12_goes_2 : decode cX12_goes 2 = .ok (.putfield 74, 3) := by decide +kernel
theorem dX12_goes_5 : decode cX12_goes 5 = .ok (.aload_n 0, 1) := by decide +kernel
theorem dX12_goes_6 : decode cX12_goes 6 = .ok (.iload_n 1, 1) := by decide +kernel
theorem dX12_goes_7 : decode cX12_goes 7 = .ok (.i2l, 1) := by decide +kernel
theorem dX12_goes_8 : decode cX12_goes 8 = .ok (.iload_n 2, 1) := by decide +kernel
theorem dX12_goes_9 : decode cX12_goes 9 = .ok (.i2l, 1) := by decide +kernel
theorem dX12_goes_10 : decode cX12_goes 10 = .ok (.invokevirtual 253, 3) := by decide +kernel
theorem dX12_goes_13 : decode cX12_goes 13 = .ok (.ifCond .eq 24, 3) := by decide +kernel
theorem dX12_goes_37 : decode cX12_goes 37 = .ok (.bipush (-2), 2) := by decide +kernel
theorem dX12_goes_39 : decode cX12_goes 39 = .ok (.ireturn, 1) := by decide +kernel
theorem dX12_worth_0 : decode cX12_worth 0 = .ok (.aload_n 0, 1) := by decide +kernel
theorem dX12_worth_1 : decode cX12_worth 1 = .ok (.iconst 0, 1) := by decide +kernel
theorem dX12_worth_2 : decode cX12_worth 2 = .ok (.putfield 74, 3) := by decide +kernel
theorem dX12_worth_5 : decode cX12_worth 5 = .ok (.aload_n 0, 1) := by decide +kernel
theorem dX12_worth_6 : decode cX12_worth 6 = .ok (.invokevirtual 237, 3) := by decide +kernel
theorem dX12_worth_9 : decode cX12_worth 9 = .ok (.ifCond .eq 24, 3) := by decide +kernel
theorem dX12_worth_33 : decode cX12_worth 33 = .ok (.bipush (-2), 2) := by decide +kernel
theorem dX12_worth_35 : decode cX12_worth 35 = .ok (.ireturn, 1) := by decide +kernel
theorem dX12_lured_0 : decode cX12_lured 0 = .ok (.aload_n 0, 1) := by decide +kernel
theorem dX12_lured_1 : decode cX12_lured 1 = .ok (.iconst 0, 1) := by decide +kernel
theorem dX12_lured_2 : decode cX12_lured 2 = .ok (.putfield 74, 3) := by decide +kernel
theorem dX12_lured_5 : decode cX12_lured 5 = .ok (.aload_n 0, 1) := by decide +kernel
theorem dX12_lured_6 : decode cX12_lured 6 = .ok (.iload_n 1, 1) := by decide +kernel
theorem dX12_lured_7 : decode cX12_lured 7 = .ok (.invokevirtual 273, 3) := by decide +kernel
theorem dX12_lured_10 : decode cX12_lured 10 = .ok (.ifCond .eq 11, 3) := by decide +kernel
theorem dX12_lured_21 : decode cX12_lured 21 = .ok (.bipush (-2), 2) := by decide +kernel
theorem dX12_lured_23 : decode cX12_lured 23 = .ok (.ireturn, 1) := by decide +kernel
theorem dX12_danger_0 : decode cX12_danger 0 = .ok (.aload_n 0, 1) := by decide +kernel
theorem dX12_danger_1 : decode cX12_danger 1 = .ok (.iconst 0, 1) := by decide +kernel
theorem dX12_danger_2 : decode cX12_danger 2 = .ok (.putfield 74, 3) := by decide +kernel
theorem dX12_danger_5 : decode cX12_danger 5 = .ok (.aload_n 0, 1) := by decide +kernel
theorem dX12_danger_6 : decode cX12_danger 6 = .ok (.invokevirtual 237, 3) := by decide +kernel
theorem dX12_danger_9 : decode cX12_danger 9 = .ok (.ifCond .eq 11, 3) := by decide +kernel
theorem dX12_danger_20 : decode cX12_danger 20 = .ok (.bipush (-2), 2) := by decide +kernel
theorem dX12_danger_22 : decode cX12_danger 22 = .ok (.ireturn, 1) := by decide +kernel
theorem dX12_claque_0 : decode cX12_claque 0 = .ok (.aload_n 0, 1) := by decide +kernel
theorem dX12_claque_1 : decode cX12_claque 1 = .ok (.iconst 0, 1) := by decide +kernel
theorem dX12_claque_2 : decode cX12_claque 2 = .ok (.putfield 74, 3) := by decide +kernel
theorem dX12_claque_5 : decode cX12_claque 5 = .ok (.aload_n 0, 1) := by decide +kernel
theorem dX12_claque_6 : decode cX12_claque 6 = .ok (.iload_n 1, 1) := by decide +kernel
theorem dX12_claque_7 : decode cX12_claque 7 = .ok (.i2l, 1) := by decide +kernel
theorem dX12_claque_8 : decode cX12_claque 8 = .ok (.invokevirtual 250, 3) := by decide +kernel
theorem dX12_claque_11 : decode cX12_claque 11 = .ok (.ifCond .eq 11, 3) := by decide +kernel
theorem dX12_claque_22 : decode cX12_claque 22 = .ok (.bipush (-2), 2) := by decide +kernel
theorem dX12_claque_24 : decode cX12_claque 24 = .ok (.ireturn, 1) := by decide +kernel
theorem dX12_lastly_0 : decode cX12_lastly 0 = .ok (.aload_n 0, 1) := by decide +kernel
theorem dX12_lastly_1 : decode cX12_lastly 1 = .ok (.iconst 0, 1) := by decide +kernel
theorem dX12_lastly_2 : decode cX12_lastly 2 = .ok (.putfield 74, 3) := by decide +kernel
theorem dX12_lastly_5 : decode cX12_lastly 5 = .ok (.aload_n 0, 1) := by decide +kernel
theorem dX12_lastly_6 : decode cX12_lastly 6 = .ok (.iload_n 1, 1) := by decide +kernel
theorem dX12_lastly_7 : decode cX12_lastly 7 = .ok (.i2l, 1) := by decide +kernel
theorem dX12_lastly_8 : decode cX12_lastly 8 = .ok (.invokevirtual 250, 3) := by decide +kernel
theorem dX12_lastly_11 : decode cX12_lastly 11 = .ok (.ifCond .eq 11, 3) := by decide +kernel
theorem dX12_lastly_22 : decode cX12_lastly 22 = .ok (.bipush (-2), 2) := by decide +kernel
theorem dX12_lastly_24 : decode cX12_lastly 24 = .ok (.ireturn, 1) := by decide +kernel
theorem dX12_screw_0 : decode cX12_screw 0 = .ok (.aload_n 0, 1) := by decide +kernel
theorem dX12_screw_1 : decode cX12_screw 1 = .ok (.iconst 0, 1) := by decide +kernel
theorem dX12_screw_2 : decode cX12_screw 2 = .ok (.putfield 74, 3) := by decide +kernel
theorem dX12_screw_5 : decode cX12_screw 5 = .ok (.aload_n 0, 1) := by decide +kernel
theorem dX12_screw_6 : decode cX12_screw 6 = .ok (.iload_n 1, 1) := by decide +kernel
theorem dX12_screw_7 : decode cX12_screw 7 = .ok (.i2l, 1) := by decide +kernel
theorem dX12_screw_8 : decode cX12_screw 8 = .ok (.invokevirtual 247, 3) := by decide +kernel
theorem dX12_screw_11 : decode cX12_screw 11 = .ok (.ifCond .eq 15, 3) := by decide +kernel
theorem dX12_screw_26 : decode cX12_screw 26 = .ok (.bipush (-2), 2) := by decide +kernel
theorem dX12_screw_28 : decode cX12_screw 28 = .ok (.ireturn, 1) := by decide +kernel
theorem dX12_king_0 : decode cX12_king 0 = .ok (.aload_n 0, 1) := by decide +kernel
theorem dX12_king_1 : decode cX12_king 1 = .ok (.iconst 0, 1) := by decide +kernel
theorem dX12_king_2 : decode cX12_king 2 = .ok (.putfield 74, 3) := by decide +kernel
theorem dX12_king_5 : decode cX12_king 5 = .ok (.iload_n 2, 1) := by decide +kernel
theorem dX12_king_6 : decode cX12_king 6 = .ok (.iconst (-1), 1) := by decide +kernel
theorem dX12_king_7 : decode cX12_king 7 = .ok (.if_icmp .ne 12, 3) := by decide +kernel
theorem dX12_king_10 : decode cX12_king 10 = .ok (.iload_n 3, 1) := by decide +kernel
theorem dX12_king_11 : decode cX12_king 11 = .ok (.iconst (-1), 1) := by decide +kernel
theorem dX12_king_12 : decode cX12_king 12 = .ok (.if_icmp .ne 7, 3) := by decide +kernel
theorem dX12_king_15 : decode cX12_king 15 = .ok (.iconst 1, 1) := by decide +kernel
theorem dX12_king_16 : decode cX12_king 16 = .ok (.goto 4, 3) := by decide +kernel
theorem dX12_king_19 : decode cX12_king 19 = .ok (.iconst 0, 1) := by decide +kernel
theorem dX12_king_20 : decode cX12_king 20 = .ok (.istore 4, 2) := by decide +kernel
theorem dX12_king_22 : decode cX12_king 22 = .ok (.aload_n 0, 1) := by decide +kernel
theorem dX12_king_23 : decode cX12_king 23 = .ok (.iload_n 1, 1) := by decide +kernel
theorem dX12_king_24 : decode cX12_king 24 = .ok (.i2l, 1) := by decide +kernel
theorem dX12_king_25 : decode cX12_king 25 = .ok (.invokevirtual 250, 3) := by decide +kernel
theorem dX12_king_28 : decode cX12_king 28 = .ok (.ifCond .eq 33, 3) := by decide +kernel
theorem dX12_king_61 : decode cX12_king 61 = .ok (.bipush (-2), 2) := by decide +kernel
theorem dX12_king_63 : decode cX12_king 63 = .ok (.ireturn, 1) := by decide +kernel
theorem dX12_seats_0 : decode cX12_seats 0 = .ok (.aload_n 0, 1) := by decide +kernel
theorem dX12_seats_1 : decode cX12_seats 1 = .ok (.iconst 0, 1) := by decide +kernel
theorem dX12_seats_2 : decode cX12_seats 2 = .ok (.putfield 74, 3) := by decide +kernel
theorem dX12_seats_5 : decode cX12_seats 5 = .ok (.aload_n 0, 1) := by decide +kernel
theorem dX12_seats_6 : decode cX12_seats 6 = .ok (.iload_n 1, 1) := by decide +kernel
theorem dX12_seats_7 : decode cX12_seats 7 = .ok (.i2l, 1) := by decide +kernel
theorem dX12_seats_8 : decode cX12_seats 8 = .ok (.iload_n 2, 1) := by decide +kernel
theorem dX12_seats_9 : decode cX12_seats 9 = .ok (.i2l, 1) := by decide +kernel
theorem dX12_seats_10 : decode cX12_seats 10 = .ok (.invokevirtual 253, 3) := by decide +kernel
theorem dX12_seats_13 : decode cX12_seats 13 = .ok (.ifCond .eq 13, 3) := by decide +kernel
theorem dX12_seats_26 : decode cX12_seats 26 = .ok (.bipush (-2), 2) := by decide +kernel
theorem dX12_seats_28 : decode cX12_seats 28 = .ok (.ireturn, 1) := by decide +kernel
theorem dX12_undo_0 : decode cX12_undo 0 = .ok (.aload_n 0, 1) := by decide +kernel
theorem dX12_undo_1 : decode cX12_undo 1 = .ok (.iconst 0, 1) := by decide +kernel
theorem dX12_undo_2 : decode cX12_undo 2 = .ok (.putfield 74, 3) := by decide +kernel
theorem dX12_undo_5 : decode cX12_undo 5 = .ok (.aload_n 0, 1) := by decide +kernel
theorem dX12_undo_6 : decode cX12_undo 6 = .ok (.invokevirtual 237, 3) := by decide +kernel
theorem dX12_undo_9 : decode cX12_undo 9 = .ok (.ifCond .ne 6, 3) := by decide +kernel
theorem dX12_undo_12 : decode cX12_undo 12 = .ok (.bipush (-2), 2) := by decide +kernel
theorem dX12_undo_14 : decode cX12_undo 14 = .ok (.ireturn, 1) := by decide +kernel
theorem dX12_drawn_0 : decode cX12_drawn 0 = .ok (.aload_n 0, 1) := by decide +kernel
theorem dX12_drawn_1 : decode cX12_drawn 1 = .ok (.iconst 0, 1) := by decide +kernel
theorem dX12_drawn_2 : decode cX12_drawn 2 = .ok (.putfield 74, 3) := by decide +kernel
theorem dX12_drawn_5 : decode cX12_drawn 5 = .ok (.aload_n 0, 1) := by decide +kernel
theorem dX12_drawn_6 : decode cX12_drawn 6 = .ok (.iload_n 1, 1) := by decide +kernel
theorem dX12_drawn_7 : decode cX12_drawn 7 = .ok (.iload_n 2, 1) := by decide +kernel
theorem dX12_drawn_8 : decode cX12_drawn 8 = .ok (.invokevirtual 444, 3) := by decide +kernel
theorem dX12_drawn_11 : decode cX12_drawn 11 = .ok (.ifCond .eq 15, 3) := by decide +kernel
theorem dX12_drawn_26 : decode cX12_drawn 26 = .ok (.bipush (-2), 2) := by decide +kernel
theorem dX12_drawn_28 : decode cX12_drawn 28 = .ok (.ireturn, 1) := by decide +kernel
theorem dX12_lucky_0 : decode cX12_lucky 0 = .ok (.aload_n 0, 1) := by decide +kernel
theorem dX12_lucky_1 : decode cX12_lucky 1 = .ok (.iconst 0, 1) := by decide +kernel
theorem dX12_lucky_2 : decode cX12_lucky 2 = .ok (.putfield 74, 3) := by decide +kernel
theorem dX12_lucky_5 : decode cX12_lucky 5 = .ok (.aload_n 0, 1) := by decide +kernel
theorem dX12_lucky_6 : decode cX12_lucky 6 = .ok (.iload_n 1, 1) := by decide +kernel
theorem dX12_lucky_7 : decode cX12_lucky 7 = .ok (.iload_n 3, 1) := by decide +kernel
theorem dX12_lucky_8 : decode cX12_lucky 8 = .ok (.invokevirtual 444, 3) := by decide +kernel
theorem dX12_lucky_11 : decode cX12_lucky 11 = .ok (.ifCond .eq 15, 3) := by decide +kernel
theorem dX12_lucky_26 : decode cX12_lucky 26 = .ok (.bipush (-2), 2) := by decide +kernel
theorem dX12_lucky_28 : decode cX12_lucky 28 = .ok (.ireturn, 1) := by decide +kernel
theorem dX12_four_0 : decode cX12_four 0 = .ok (.bipush 24, 2) := by decide +kernel
theorem dX12_four_2 : decode cX12_four 2 = .ok (.istore_n 2, 1) := by decide +kernel
theorem dX12_four_3 : decode cX12_four 3 = .ok (.iload_n 2, 1) := by decide +kernel
theorem dX12_four_4 : decode cX12_four 4 = .ok (.ifCond .lt 32, 3) := by decide +kernel
theorem dX12_four_7 : decode cX12_four 7 = .ok (.aload_n 0, 1) := by decide +kernel
theorem dX12_four_8 : decode cX12_four 8 = .ok (.getfield 23, 3) := by decide +kernel
theorem dX12_four_11 : decode cX12_four 11 = .ok (.aload_n 0, 1) := by decide +kernel
theorem dX12_four_12 : decode cX12_four 12 = .ok (.getfield 91, 3) := by decide +kernel
theorem dX12_four_15 : decode cX12_four 15 = .ok (.iload_n 1, 1) := by decide +kernel
theorem dX12_four_16 : decode cX12_four 16 = .ok (.iload_n 2, 1) := by decide +kernel
theorem dX12_four_17 : decode cX12_four 17 = .ok (.ishr, 1) := by decide +kernel
theorem dX12_four_18 : decode cX12_four 18 = .ok (.i2b, 1) := by decide +kernel
theorem dX12_four_19 : decode cX12_four 19 = .ok (.bastore, 1) := by decide +kernel
theorem dX12_four_20 : decode cX12_four 20 = .ok (.aload_n 0, 1) := by decide +kernel
theorem dX12_four_21 : decode cX12_four 21 = .ok (.dup, 1) := by decide +kernel
theorem dX12_four_22 : decode cX12_four 22 = .ok (.getfield 91, 3) := by decide +kernel
theorem dX12_four_25 : decode cX12_four 25 = .ok (.iconst 1, 1) := by decide +kernel
theorem dX12_four_26 : decode cX12_four 26 = .ok (.iadd, 1) := by decide +kernel
theorem dX12_four_27 : decode cX12_four 27 = .ok (.putfield 91, 3) := by decide +kernel
theorem dX12_four_30 : decode cX12_four 30 = .ok (.iinc 2 (-8), 3) := by decide +kernel
theorem dX12_four_33 : decode cX12_four 33 = .ok (.goto (-30), 3) := by decide +kernel
theorem dX12_four_36 : decode cX12_four 36 = .ok (.return_, 1) := by decide +kernel
theorem dX12_feed_0 : decode cX12_feed 0 = .ok (.aload_n 0, 1) := by decide +kernel
theorem dX12_feed_1 : decode cX12_feed 1 = .ok (.iconst 0, 1) := by decide +kernel
theorem dX12_feed_2 : decode cX12_feed 2 = .ok (.putfield 74, 3) := by decide +kernel
theorem dX12_feed_5 : decode cX12_feed 5 = .ok (.aload_n 0, 1) := by decide +kernel
theorem dX12_feed_6 : decode cX12_feed 6 = .ok (.getfield 91, 3) := by decide +kernel
theorem dX12_feed_9 : decode cX12_feed 9 = .ok (.bipush 20, 2) := by decide +kernel
theorem dX12_feed_11 : decode cX12_feed 11 = .ok (.iadd, 1) := by decide +kernel
theorem dX12_feed_12 : decode cX12_feed 12 = .ok (.sipush 1400, 3) := by decide +kernel
theorem dX12_feed_15 : decode cX12_feed 15 = .ok (.if_icmp .le 5, 3) := by decide +kernel
theorem dX12_feed_20 : decode cX12_feed 20 = .ok (.aload_n 0, 1) := by decide +kernel
theorem dX12_feed_21 : decode cX12_feed 21 = .ok (.iload_n 1, 1) := by decide +kernel
theorem dX12_feed_22 : decode cX12_feed 22 = .ok (.invokevirtual 94, 3) := by decide +kernel
theorem dX12_feed_25 : decode cX12_feed 25 = .ok (.aload_n 0, 1) := by decide +kernel
theorem dX12_feed_26 : decode cX12_feed 26 = .ok (.iload_n 2, 1) := by decide +kernel
theorem dX12_feed_27 : decode cX12_feed 27 = .ok (.invokevirtual 94, 3) := by decide +kernel
theorem dX12_feed_30 : decode cX12_feed 30 = .ok (.aload_n 0, 1) := by decide +kernel
theorem dX12_feed_31 : decode cX12_feed 31 = .ok (.iload_n 3, 1) := by decide +kernel
theorem dX12_feed_32 : decode cX12_feed 32 = .ok (.invokevirtual 94, 3) := by decide +kernel
theorem dX12_feed_35 : decode cX12_feed 35 = .ok (.aload_n 0, 1) := by decide +kernel
theorem dX12_feed_36 : decode cX12_feed 36 = .ok (.iload 4, 2) := by decide +kernel
theorem dX12_feed_38 : decode cX12_feed 38 = .ok (.invokevirtual 94, 3) := by decide +kernel
theorem dX12_feed_41 : decode cX12_feed 41 = .ok (.aload_n 0, 1) := by decide +kernel
theorem dX12_feed_42 : decode cX12_feed 42 = .ok (.iload 5, 2) := by decide +kernel
theorem dX12_feed_44 : decode cX12_feed 44 = .ok (.invokevirtual 94, 3) := by decide +kernel
theorem dX12_feed_47 : decode cX12_feed 47 = .ok (.aload_n 0, 1) := by decide +kernel
theorem dX12_feed_48 : decode cX12_feed 48 = .ok (.getfield 91, 3) := by decide +kernel
theorem dX12_feed_51 : decode cX12_feed 51 = .ok (.ireturn, 1) := by decide +kernel
theorem dX12_end_0 : decode cX12_end 0 = .ok (.aload_n 0, 1) := by decide +kernel
theorem dX12_end_1 : decode cX12_end 1 = .ok (.iconst 0, 1) := by decide +kernel
theorem dX12_end_2 : decode cX12_end 2 = .ok (.putfield 74, 3) := by decide +kernel
theorem dX12_end_5 : decode cX12_end 5 = .ok (.iload_n 1, 1) := by decide +kernel
theorem dX12_end_6 : decode cX12_end 6 = .ok (.i2l, 1) := by decide +kernel
theorem dX12_end_7 : decode cX12_end 7 = .ok (.lconst 0, 1) := by decide +kernel
theorem dX12_end_8 : decode cX12_end 8 = .ok (.aload_n 0, 1) := by decide +kernel
theorem dX12_end_9 : decode cX12_end 9 = .ok (.getfield 91, 3) := by decide +kernel
theorem dX12_end_12 : decode cX12_end 12 = .ok (.i2l, 1) := by decide +kernel
theorem dX12_end_13 : decode cX12_end 13 = .ok (.invokestatic 79, 3) := by decide +kernel
theorem dX12_end_16 : decode cX12_end 16 = .ok (.ifCond .ne 5, 3) := by decide +kernel
theorem dX12_end_19 : decode cX12_end 19 = .ok (.iconst (-1), 1) := by decide +kernel
theorem dX12_end_20 : decode cX12_end 20 = .ok (.ireturn, 1) := by decide +kernel
theorem dX12_end_21 : decode cX12_end 21 = .ok (.aload_n 0, 1) := by decide +kernel
theorem dX12_end_22 : decode cX12_end 22 = .ok (.iload_n 1, 1) := by decide +kernel
theorem dX12_end_23 : decode cX12_end 23 = .ok (.putfield 91, 3) := by decide +kernel
theorem dX12_end_26 : decode cX12_end 26 = .ok (.iload_n 1, 1) := by decide +kernel
theorem dX12_end_27 : decode cX12_end 27 = .ok (.ireturn, 1) := by decide +kernel
theorem dX12_fault_0 : decode cX12_fault 0 = .ok (.aload_n 0, 1) := by decide +kernel
theorem dX12_fault_1 : decode cX12_fault 1 = .ok (.iconst 0, 1) := by decide +kernel
theorem dX12_fault_2 : decode cX12_fault 2 = .ok (.putfield 74, 3) := by decide +kernel
theorem dX12_fault_5 : decode cX12_fault 5 = .ok (.iload_n 1, 1) := by decide +kernel
theorem dX12_fault_6 : decode cX12_fault 6 = .ok (.ifCond .ne 10, 3) := by decide +kernel
theorem dX12_fault_9 : decode cX12_fault 9 = .ok (.aload_n 0, 1) := by decide +kernel
theorem dX12_fault_10 : decode cX12_fault 10 = .ok (.getfield 153, 3) := by decide +kernel
theorem dX12_fault_13 : decode cX12_fault 13 = .ok (.goto 16, 3) := by decide +kernel
theorem dX12_fault_16 : decode cX12_fault 16 = .ok (.iload_n 1, 1) := by decide +kernel
theorem dX12_fault_17 : decode cX12_fault 17 = .ok (.iconst 1, 1) := by decide +kernel
theorem dX12_fault_18 : decode cX12_fault 18 = .ok (.if_icmp .ne 10, 3) := by decide +kernel
theorem dX12_fault_21 : decode cX12_fault 21 = .ok (.aload_n 0, 1) := by decide +kernel
theorem dX12_fault_22 : decode cX12_fault 22 = .ok (.getfield 27, 3) := by decide +kernel
theorem dX12_fault_25 : decode cX12_fault 25 = .ok (.goto 4, 3) := by decide +kernel
theorem dX12_fault_28 : decode cX12_fault 28 = .ok (.iconst (-1), 1) := by decide +kernel
theorem dX12_fault_29 : decode cX12_fault 29 = .ok (.ireturn, 1) := by decide +kernel
theorem dX12_clears_0 : decode cX12_clears 0 = .ok (.aload_n 0, 1) := by decide +kernel
theorem dX12_clears_1 : decode cX12_clears 1 = .ok (.getfield 31, 3) := by decide +kernel
theorem dX12_clears_4 : decode cX12_clears 4 = .ok (.iconst 4, 1) := by decide +kernel
theorem dX12_clears_5 : decode cX12_clears 5 = .ok (.iconst 0, 1) := by decide +kernel
theorem dX12_clears_6 : decode cX12_clears 6 = .ok (.iastore, 1) := by decide +kernel
theorem dX12_clears_7 : decode cX12_clears 7 = .ok (.iconst 0, 1) := by decide +kernel
theorem dX12_clears_8 : decode cX12_clears 8 = .ok (.istore_n 1, 1) := by decide +kernel
theorem dX12_clears_9 : decode cX12_clears 9 = .ok (.iload_n 1, 1) := by decide +kernel
theorem dX12_clears_10 : decode cX12_clears 10 = .ok (.bipush 6, 2) := by decide +kernel
theorem dX12_clears_12 : decode cX12_clears 12 = .ok (.if_icmp .ge 19, 3) := by decide +kernel
theorem dX12_clears_15 : decode cX12_clears 15 = .ok (.aload_n 0, 1) := by decide +kernel
theorem dX12_clears_16 : decode cX12_clears 16 = .ok (.getfield 34, 3) := by decide +kernel
theorem dX12_clears_19 : decode cX12_clears 19 = .ok (.bipush 24, 2) := by decide +kernel
theorem dX12_clears_21 : decode cX12_clears 21 = .ok (.iload_n 1, 1) := by decide +kernel
theorem dX12_clears_22 : decode cX12_clears 22 = .ok (.iadd, 1) := by decide +kernel
theorem dX12_clears_23 : decode cX12_clears 23 = .ok (.iconst 0, 1) := by decide +kernel
theorem dX12_clears_24 : decode cX12_clears 24 = .ok (.iastore, 1) := by decide +kernel
theorem dX12_clears_25 : decode cX12_clears 25 = .ok (.iinc 1 1, 3) := by decide +kernel
theorem dX12_clears_28 : decode cX12_clears 28 = .ok (.goto (-19), 3) := by decide +kernel
theorem dX12_clears_31 : decode cX12_clears 31 = .ok (.iconst 0, 1) := by decide +kernel
theorem dX12_clears_32 : decode cX12_clears 32 = .ok (.istore_n 1, 1) := by decide +kernel
theorem dX12_clears_33 : decode cX12_clears 33 = .ok (.iload_n 1, 1) := by decide +kernel
theorem dX12_clears_34 : decode cX12_clears 34 = .ok (.bipush 36, 2) := by decide +kernel
theorem dX12_clears_36 : decode cX12_clears 36 = .ok (.if_icmp .ge 20, 3) := by decide +kernel
theorem dX12_clears_39 : decode cX12_clears 39 = .ok (.aload_n 0, 1) := by decide +kernel
theorem dX12_clears_40 : decode cX12_clears 40 = .ok (.getfield 43, 3) := by decide +kernel
theorem dX12_clears_43 : decode cX12_clears 43 = .ok (.sipush 144, 3) := by decide +kernel
theorem dX12_clears_46 : decode cX12_clears 46 = .ok (.iload_n 1, 1) := by decide +kernel
theorem dX12_clears_47 : decode cX12_clears 47 = .ok (.iadd, 1) := by decide +kernel
theorem dX12_clears_48 : decode cX12_clears 48 = .ok (.iconst 0, 1) := by decide +kernel
theorem dX12_clears_49 : decode cX12_clears 49 = .ok (.bastore, 1) := by decide +kernel
theorem dX12_clears_50 : decode cX12_clears 50 = .ok (.iinc 1 1, 3) := by decide +kernel
theorem dX12_clears_53 : decode cX12_clears 53 = .ok (.goto (-20), 3) := by decide +kernel
theorem dX12_clears_56 : decode cX12_clears 56 = .ok (.return_, 1) := by decide +kernel
theorem dX12_isByte_0 : decode cX12_isByte 0 = .ok (.iload_n 1, 1) := by decide +kernel
theorem dX12_isByte_1 : decode cX12_isByte 1 = .ok (.aload_n 0, 1) := by decide +kernel
theorem dX12_isByte_2 : decode cX12_isByte 2 = .ok (.getfield 91, 3) := by decide +kernel
theorem dX12_isByte_5 : decode cX12_isByte 5 = .ok (.if_icmp .ge 27, 3) := by decide +kernel
theorem dX12_isByte_32 : decode cX12_isByte 32 = .ok (.iconst 0, 1) := by decide +kernel
theorem dX12_isByte_33 : decode cX12_isByte 33 = .ok (.ireturn, 1) := by decide +kernel
theorem dX12_next_0 : decode cX12_next 0 = .ok (.aload_n 0, 1) := by decide +kernel
theorem dX12_next_1 : decode cX12_next 1 = .ok (.aload_n 0, 1) := by decide +kernel
theorem dX12_next_2 : decode cX12_next 2 = .ok (.getfield 98, 3) := by decide +kernel
theorem dX12_next_5 : decode cX12_next 5 = .ok (.bipush 32, 2) := by decide +kernel
theorem dX12_next_7 : decode cX12_next 7 = .ok (.bipush 32, 2) := by decide +kernel
theorem dX12_next_9 : decode cX12_next 9 = .ok (.invokevirtual 101, 3) := by decide +kernel
theorem dX12_next_12 : decode cX12_next 12 = .ok (.ifCond .ne 18, 3) := by decide +kernel
theorem dX12_next_15 : decode cX12_next 15 = .ok (.aload_n 0, 1) := by decide +kernel
theorem dX12_next_16 : decode cX12_next 16 = .ok (.aload_n 0, 1) := by decide +kernel
theorem dX12_next_17 : decode cX12_next 17 = .ok (.getfield 98, 3) := by decide +kernel
theorem dX12_next_20 : decode cX12_next 20 = .ok (.bipush 10, 2) := by decide +kernel
theorem dX12_next_22 : decode cX12_next 22 = .ok (.bipush 10, 2) := by decide +kernel
theorem dX12_next_24 : decode cX12_next 24 = .ok (.invokevirtual 101, 3) := by decide +kernel
theorem dX12_next_27 : decode cX12_next 27 = .ok (.ifCond .eq 16, 3) := by decide +kernel
theorem dX12_next_43 : decode cX12_next 43 = .ok (.aload_n 0, 1) := by decide +kernel
theorem dX12_next_44 : decode cX12_next 44 = .ok (.aload_n 0, 1) := by decide +kernel
theorem dX12_next_45 : decode cX12_next 45 = .ok (.getfield 98, 3) := by decide +kernel
theorem dX12_next_48 : decode cX12_next 48 = .ok (.putfield 105, 3) := by decide +kernel
theorem dX12_next_51 : decode cX12_next 51 = .ok (.aload_n 0, 1) := by decide +kernel
theorem dX12_next_52 : decode cX12_next 52 = .ok (.iconst 0, 1) := by decide +kernel
theorem dX12_next_53 : decode cX12_next 53 = .ok (.putfield 108, 3) := by decide +kernel
theorem dX12_next_56 : decode cX12_next 56 = .ok (.aload_n 0, 1) := by decide +kernel
theorem dX12_next_57 : decode cX12_next 57 = .ok (.lconst 0, 1) := by decide +kernel
theorem dX12_next_58 : decode cX12_next 58 = .ok (.putfield 111, 3) := by decide +kernel
theorem dX12_next_61 : decode cX12_next 61 = .ok (.aload_n 0, 1) := by decide +kernel
theorem dX12_next_62 : decode cX12_next 62 = .ok (.getfield 98, 3) := by decide +kernel
theorem dX12_next_65 : decode cX12_next 65 = .ok (.aload_n 0, 1) := by decide +kernel
theorem dX12_next_66 : decode cX12_next 66 = .ok (.getfield 91, 3) := by decide +kernel
theorem dX12_next_69 : decode cX12_next 69 = .ok (.if_icmp .ne 11, 3) := by decide +kernel
theorem dX12_next_72 : decode cX12_next 72 = .ok (.aload_n 0, 1) := by decide +kernel
theorem dX12_next_73 : decode cX12_next 73 = .ok (.iconst 0, 1) := by decide +kernel
theorem dX12_next_74 : decode cX12_next 74 = .ok (.putfield 115, 3) := by decide +kernel
theorem dX12_next_77 : decode cX12_next 77 = .ok (.goto 230, 3) := by decide +kernel
theorem dX12_next_307 : decode cX12_next 307 = .ok (.return_, 1) := by decide +kernel
theorem dX12_begins_0 : decode cX12_begins 0 = .ok (.aload_n 0, 1) := by decide +kernel
theorem dX12_begins_1 : decode cX12_begins 1 = .ok (.iconst 0, 1) := by decide +kernel
theorem dX12_begins_2 : decode cX12_begins 2 = .ok (.putfield 126, 3) := by decide +kernel
theorem dX12_begins_5 : decode cX12_begins 5 = .ok (.aload_n 0, 1) := by decide +kernel
theorem dX12_begins_6 : decode cX12_begins 6 = .ok (.iconst (-1), 1) := by decide +kernel
theorem dX12_begins_7 : decode cX12_begins 7 = .ok (.putfield 129, 3) := by decide +kernel
theorem dX12_begins_10 : decode cX12_begins 10 = .ok (.aload_n 0, 1) := by decide +kernel
theorem dX12_begins_11 : decode cX12_begins 11 = .ok (.iconst 0, 1) := by decide +kernel
theorem dX12_begins_12 : decode cX12_begins 12 = .ok (.putfield 98, 3) := by decide +kernel
theorem dX12_begins_15 : decode cX12_begins 15 = .ok (.aload_n 0, 1) := by decide +kernel
theorem dX12_begins_16 : decode cX12_begins 16 = .ok (.invokevirtual 136, 3) := by decide +kernel
theorem dX12_begins_19 : decode cX12_begins 19 = .ok (.return_, 1) := by decide +kernel
theorem dX12_isGood_0 : decode cX12_isGood 0 = .ok (.aload_n 0, 1) := by decide +kernel
theorem dX12_isGood_1 : decode cX12_isGood 1 = .ok (.getfield 126, 3) := by decide +kernel
theorem dX12_isGood_4 : decode cX12_isGood 4 = .ok (.ifCond .ne 7, 3) := by decide +kernel
theorem dX12_isGood_7 : decode cX12_isGood 7 = .ok (.iconst 1, 1) := by decide +kernel
theorem dX12_isGood_8 : decode cX12_isGood 8 = .ok (.goto 4, 3) := by decide +kernel
theorem dX12_isGood_12 : decode cX12_isGood 12 = .ok (.ireturn, 1) := by decide +kernel
theorem dX12_isOver_0 : decode cX12_isOver 0 = .ok (.aload_n 0, 1) := by decide +kernel
theorem dX12_isOver_1 : decode cX12_isOver 1 = .ok (.iconst 0, 1) := by decide +kernel
theorem dX12_isOver_2 : decode cX12_isOver 2 = .ok (.putfield 91, 3) := by decide +kernel
theorem dX12_isOver_5 : decode cX12_isOver 5 = .ok (.aload_n 0, 1) := by decide +kernel
theorem dX12_isOver_6 : decode cX12_isOver 6 = .ok (.aload_n 0, 1) := by decide +kernel
theorem dX12_isOver_7 : decode cX12_isOver 7 = .ok (.getfield 126, 3) := by decide +kernel
theorem dX12_isOver_10 : decode cX12_isOver 10 = .ok (.putfield 153, 3) := by decide +kernel
theorem dX12_isOver_13 : decode cX12_isOver 13 = .ok (.aload_n 0, 1) := by decide +kernel
theorem dX12_isOver_14 : decode cX12_isOver 14 = .ok (.aload_n 0, 1) := by decide +kernel
theorem dX12_isOver_15 : decode cX12_isOver 15 = .ok (.getfield 126, 3) := by decide +kernel
theorem dX12_isOver_18 : decode cX12_isOver 18 = .ok (.ifCond .ne 7, 3) := by decide +kernel
theorem dX12_isOver_21 : decode cX12_isOver 21 = .ok (.iconst (-1), 1) := by decide +kernel
theorem dX12_isOver_22 : decode cX12_isOver 22 = .ok (.goto 7, 3) := by decide +kernel
theorem dX12_isOver_29 : decode cX12_isOver 29 = .ok (.putfield 27, 3) := by decide +kernel
theorem dX12_isOver_32 : decode cX12_isOver 32 = .ok (.return_, 1) := by decide +kernel
theorem dX12_copyRow_0 : decode cX12_copyRow 0 = .ok (.iconst 0, 1) := by decide +kernel
theorem dX12_copyRow_1 : decode cX12_copyRow 1 = .ok (.istore 4, 2) := by decide +kernel
theorem dX12_copyRow_3 : decode cX12_copyRow 3 = .ok (.iload 4, 2) := by decide +kernel
theorem dX12_copyRow_5 : decode cX12_copyRow 5 = .ok (.iload_n 1, 1) := by decide +kernel
theorem dX12_copyRow_6 : decode cX12_copyRow 6 = .ok (.if_icmp .ge 25, 3) := by decide +kernel
theorem dX12_copyRow_9 : decode cX12_copyRow 9 = .ok (.aload_n 0, 1) := by decide +kernel
theorem dX12_copyRow_10 : decode cX12_copyRow 10 = .ok (.iload_n 1, 1) := by decide +kernel
theorem dX12_copyRow_11 : decode cX12_copyRow 11 = .ok (.iload_n 3, 1) := by decide +kernel
theorem dX12_copyRow_12 : decode cX12_copyRow 12 = .ok (.imul, 1) := by decide +kernel
theorem dX12_copyRow_13 : decode cX12_copyRow 13 = .ok (.iload 4, 2) := by decide +kernel
theorem dX12_copyRow_15 : decode cX12_copyRow 15 = .ok (.iadd, 1) := by decide +kernel
theorem dX12_copyRow_16 : decode cX12_copyRow 16 = .ok (.aload_n 0, 1) := by decide +kernel
theorem dX12_copyRow_17 : decode cX12_copyRow 17 = .ok (.iload_n 1, 1) := by decide +kernel
theorem dX12_copyRow_18 : decode cX12_copyRow 18 = .ok (.iload_n 2, 1) := by decide +kernel
theorem dX12_copyRow_19 : decode cX12_copyRow 19 = .ok (.imul, 1) := by decide +kernel
theorem dX12_copyRow_20 : decode cX12_copyRow 20 = .ok (.iload 4, 2) := by decide +kernel
theorem dX12_copyRow_22 : decode cX12_copyRow 22 = .ok (.iadd, 1) := by decide +kernel
theorem dX12_copyRow_23 : decode cX12_copyRow 23 = .ok (.iaload, 1) := by decide +kernel
theorem dX12_copyRow_24 : decode cX12_copyRow 24 = .ok (.iastore, 1) := by decide +kernel
theorem dX12_copyRow_25 : decode cX12_copyRow 25 = .ok (.iinc 4 1, 3) := by decide +kernel
theorem dX12_copyRow_28 : decode cX12_copyRow 28 = .ok (.goto (-25), 3) := by decide +kernel
theorem dX12_copyRow_31 : decode cX12_copyRow 31 = .ok (.return_, 1) := by decide +kernel
theorem dX12_copyHall_0 : decode cX12_copyHall 0 = .ok (.aload_n 0, 1) := by decide +kernel
theorem dX12_copyHall_1 : decode cX12_copyHall 1 = .ok (.getfield 31, 3) := by decide +kernel
theorem dX12_copyHall_4 : decode cX12_copyHall 4 = .ok (.iconst 1, 1) := by decide +kernel
theorem dX12_copyHall_5 : decode cX12_copyHall 5 = .ok (.iload_n 1, 1) := by decide +kernel
theorem dX12_copyHall_6 : decode cX12_copyHall 6 = .ok (.iload_n 2, 1) := by decide +kernel
theorem dX12_copyHall_7 : decode cX12_copyHall 7 = .ok (.invokestatic 230, 3) := by decide +kernel
theorem dX12_copyHall_10 : decode cX12_copyHall 10 = .ok (.aload_n 0, 1) := by decide +kernel
theorem dX12_copyHall_11 : decode cX12_copyHall 11 = .ok (.getfield 34, 3) := by decide +kernel
theorem dX12_copyHall_14 : decode cX12_copyHall 14 = .ok (.bipush 6, 2) := by decide +kernel
theorem dX12_copyHall_16 : decode cX12_copyHall 16 = .ok (.iload_n 1, 1) := by decide +kernel
theorem dX12_copyHall_17 : decode cX12_copyHall 17 = .ok (.iload_n 2, 1) := by decide +kernel
theorem dX12_copyHall_18 : decode cX12_copyHall 18 = .ok (.invokestatic 230, 3) := by decide +kernel
theorem dX12_copyHall_21 : decode cX12_copyHall 21 = .ok (.aload_n 0, 1) := by decide +kernel
theorem dX12_copyHall_22 : decode cX12_copyHall 22 = .ok (.getfield 37, 3) := by decide +kernel
theorem dX12_copyHall_25 : decode cX12_copyHall 25 = .ok (.bipush 36, 2) := by decide +kernel
theorem dX12_copyHall_27 : decode cX12_copyHall 27 = .ok (.iload_n 1, 1) := by decide +kernel
theorem dX12_copyHall_28 : decode cX12_copyHall 28 = .ok (.iload_n 2, 1) := by decide +kernel
theorem dX12_copyHall_29 : decode cX12_copyHall 29 = .ok (.invokestatic 230, 3) := by decide +kernel
theorem dX12_copyHall_32 : decode cX12_copyHall 32 = .ok (.aload_n 0, 1) := by decide +kernel
theorem dX12_copyHall_33 : decode cX12_copyHall 33 = .ok (.getfield 40, 3) := by decide +kernel
theorem dX12_copyHall_36 : decode cX12_copyHall 36 = .ok (.bipush 28, 2) := by decide +kernel
theorem dX12_copyHall_38 : decode cX12_copyHall 38 = .ok (.iload_n 1, 1) := by decide +kernel
theorem dX12_copyHall_39 : decode cX12_copyHall 39 = .ok (.iload_n 2, 1) := by decide +kernel
theorem dX12_copyHall_40 : decode cX12_copyHall 40 = .ok (.invokestatic 230, 3) := by decide +kernel
theorem dX12_copyHall_43 : decode cX12_copyHall 43 = .ok (.aload_n 0, 1) := by decide +kernel
theorem dX12_copyHall_44 : decode cX12_copyHall 44 = .ok (.getfield 47, 3) := by decide +kernel
theorem dX12_copyHall_47 : decode cX12_copyHall 47 = .ok (.sipush 160, 3) := by decide +kernel
theorem dX12_copyHall_50 : decode cX12_copyHall 50 = .ok (.iload_n 1, 1) := by decide +kernel
theorem dX12_copyHall_51 : decode cX12_copyHall 51 = .ok (.iload_n 2, 1) := by decide +kernel
theorem dX12_copyHall_52 : decode cX12_copyHall 52 = .ok (.invokestatic 230, 3) := by decide +kernel
theorem dX12_copyHall_55 : decode cX12_copyHall 55 = .ok (.iconst 0, 1) := by decide +kernel
theorem dX12_copyHall_56 : decode cX12_copyHall 56 = .ok (.istore_n 3, 1) := by decide +kernel
theorem dX12_copyHall_57 : decode cX12_copyHall 57 = .ok (.iload_n 3, 1) := by decide +kernel
theorem dX12_copyHall_58 : decode cX12_copyHall 58 = .ok (.bipush 36, 2) := by decide +kernel
theorem dX12_copyHall_60 : decode cX12_copyHall 60 = .ok (.if_icmp .ge 31, 3) := by decide +kernel
theorem dX12_copyHall_63 : decode cX12_copyHall 63 = .ok (.aload_n 0, 1) := by decide +kernel
theorem dX12_copyHall_64 : decode cX12_copyHall 64 = .ok (.getfield 43, 3) := by decide +kernel
theorem dX12_copyHall_67 : decode cX12_copyHall 67 = .ok (.bipush 36, 2) := by decide +kernel
theorem dX12_copyHall_69 : decode cX12_copyHall 69 = .ok (.iload_n 2, 1) := by decide +kernel
theorem dX12_copyHall_70 : decode cX12_copyHall 70 = .ok (.imul, 1) := by decide +kernel
theorem dX12_copyHall_71 : decode cX12_copyHall 71 = .ok (.iload_n 3, 1) := by decide +kernel
theorem dX12_copyHall_72 : decode cX12_copyHall 72 = .ok (.iadd, 1) := by decide +kernel
theorem dX12_copyHall_73 : decode cX12_copyHall 73 = .ok (.aload_n 0, 1) := by decide +kernel
theorem dX12_copyHall_74 : decode cX12_copyHall 74 = .ok (.getfield 43, 3) := by decide +kernel
theorem dX12_copyHall_77 : decode cX12_copyHall 77 = .ok (.bipush 36, 2) := by decide +kernel
theorem dX12_copyHall_79 : decode cX12_copyHall 79 = .ok (.iload_n 1, 1) := by decide +kernel
theorem dX12_copyHall_80 : decode cX12_copyHall 80 = .ok (.imul, 1) := by decide +kernel
theorem dX12_copyHall_81 : decode cX12_copyHall 81 = .ok (.iload_n 3, 1) := by decide +kernel
theorem dX12_copyHall_82 : decode cX12_copyHall 82 = .ok (.iadd, 1) := by decide +kernel
theorem dX12_copyHall_83 : decode cX12_copyHall 83 = .ok (.baload, 1) := by decide +kernel
theorem dX12_copyHall_84 : decode cX12_copyHall 84 = .ok (.bastore, 1) := by decide +kernel
theorem dX12_copyHall_85 : decode cX12_copyHall 85 = .ok (.iinc 3 1, 3) := by decide +kernel
theorem dX12_copyHall_88 : decode cX12_copyHall 88 = .ok (.goto (-31), 3) := by decide +kernel
theorem dX12_copyHall_91 : decode cX12_copyHall 91 = .ok (.return_, 1) := by decide +kernel
theorem dX12_hall_0 : decode cX12_hall 0 = .ok (.aload_n 0, 1) := by decide +kernel
theorem dX12_hall_1 : decode cX12_hall 1 = .ok (.iconst 0, 1) := by decide +kernel
theorem dX12_hall_2 : decode cX12_hall 2 = .ok (.putfield 74, 3) := by decide +kernel
theorem dX12_hall_5 : decode cX12_hall 5 = .ok (.aload_n 0, 1) := by decide +kernel
theorem dX12_hall_6 : decode cX12_hall 6 = .ok (.invokevirtual 203, 3) := by decide +kernel
theorem dX12_hall_9 : decode cX12_hall 9 = .ok (.aload_n 0, 1) := by decide +kernel
theorem dX12_hall_10 : decode cX12_hall 10 = .ok (.invokevirtual 206, 3) := by decide +kernel
theorem dX12_hall_13 : decode cX12_hall 13 = .ok (.aload_n 0, 1) := by decide +kernel
theorem dX12_hall_14 : decode cX12_hall 14 = .ok (.invokevirtual 184, 3) := by decide +kernel
theorem dX12_hall_17 : decode cX12_hall 17 = .ok (.ifCond .eq 108, 3) := by decide +kernel
theorem dX12_hall_20 : decode cX12_hall 20 = .ok (.aload_n 0, 1) := by decide +kernel
theorem dX12_hall_21 : decode cX12_hall 21 = .ok (.getfield 115, 3) := by decide +kernel
theorem dX12_hall_24 : decode cX12_hall 24 = .ok (.ifCond .eq 101, 3) := by decide +kernel
theorem dX12_hall_125 : decode cX12_hall 125 = .ok (.aload_n 0, 1) := by decide +kernel
theorem dX12_hall_126 : decode cX12_hall 126 = .ok (.invokevirtual 223, 3) := by decide +kernel
theorem dX12_hall_129 : decode cX12_hall 129 = .ok (.aload_n 0, 1) := by decide +kernel
theorem dX12_hall_130 : decode cX12_hall 130 = .ok (.getfield 126, 3) := by decide +kernel
theorem dX12_hall_133 : decode cX12_hall 133 = .ok (.ifCond .eq 6, 3) := by decide +kernel
theorem dX12_hall_139 : decode cX12_hall 139 = .ok (.aload_n 0, 1) := by decide +kernel
theorem dX12_hall_140 : decode cX12_hall 140 = .ok (.iconst 4, 1) := by decide +kernel
theorem dX12_hall_141 : decode cX12_hall 141 = .ok (.iconst 0, 1) := by decide +kernel
theorem dX12_hall_142 : decode cX12_hall 142 = .ok (.invokevirtual 226, 3) := by decide +kernel
theorem dX12_hall_145 : decode cX12_hall 145 = .ok (.aload_n 0, 1) := by decide +kernel
theorem dX12_hall_146 : decode cX12_hall 146 = .ok (.getfield 31, 3) := by decide +kernel
theorem dX12_hall_149 : decode cX12_hall 149 = .ok (.iconst 0, 1) := by decide +kernel
theorem dX12_hall_150 : decode cX12_hall 150 = .ok (.iaload, 1) := by decide +kernel
theorem dX12_hall_151 : decode cX12_hall 151 = .ok (.ireturn, 1) := by decide +kernel
theorem dX12_sitters_0 : decode cX12_sitters 0 = .ok (.iconst 0, 1) := by decide +kernel
theorem dX12_sitters_1 : decode cX12_sitters 1 = .ok (.istore_n 1, 1) := by decide +kernel
theorem dX12_sitters_2 : decode cX12_sitters 2 = .ok (.iconst 0, 1) := by decide +kernel
theorem dX12_sitters_3 : decode cX12_sitters 3 = .ok (.istore_n 2, 1) := by decide +kernel
theorem dX12_sitters_4 : decode cX12_sitters 4 = .ok (.iload_n 2, 1) := by decide +kernel
theorem dX12_sitters_5 : decode cX12_sitters 5 = .ok (.bipush 36, 2) := by decide +kernel
theorem dX12_sitters_7 : decode cX12_sitters 7 = .ok (.if_icmp .ge 26, 3) := by decide +kernel
theorem dX12_sitters_10 : decode cX12_sitters 10 = .ok (.iload_n 1, 1) := by decide +kernel
theorem dX12_sitters_11 : decode cX12_sitters 11 = .ok (.aload_n 0, 1) := by decide +kernel
theorem dX12_sitters_12 : decode cX12_sitters 12 = .ok (.getfield 43, 3) := by decide +kernel
theorem dX12_sitters_15 : decode cX12_sitters 15 = .ok (.iload_n 2, 1) := by decide +kernel
theorem dX12_sitters_16 : decode cX12_sitters 16 = .ok (.baload, 1) := by decide +kernel
theorem dX12_sitters_17 : decode cX12_sitters 17 = .ok (.ifCond .eq 7, 3) := by decide +kernel
theorem dX12_sitters_24 : decode cX12_sitters 24 = .ok (.iconst 0, 1) := by decide +kernel
theorem dX12_sitters_25 : decode cX12_sitters 25 = .ok (.iadd, 1) := by decide +kernel
theorem dX12_sitters_26 : decode cX12_sitters 26 = .ok (.istore_n 1, 1) := by decide +kernel
theorem dX12_sitters_27 : decode cX12_sitters 27 = .ok (.iinc 2 1, 3) := by decide +kernel
theorem dX12_sitters_30 : decode cX12_sitters 30 = .ok (.goto (-26), 3) := by decide +kernel
theorem dX12_sitters_33 : decode cX12_sitters 33 = .ok (.iload_n 1, 1) := by decide +kernel
theorem dX12_sitters_34 : decode cX12_sitters 34 = .ok (.ireturn, 1) := by decide +kernel
theorem dX12_count_0 : decode cX12_count 0 = .ok (.aload_n 0, 1) := by decide +kernel
theorem dX12_count_1 : decode cX12_count 1 = .ok (.iconst 0, 1) := by decide +kernel
theorem dX12_count_2 : decode cX12_count 2 = .ok (.putfield 74, 3) := by decide +kernel
theorem dX12_count_5 : decode cX12_count 5 = .ok (.iload_n 1, 1) := by decide +kernel
theorem dX12_count_6 : decode cX12_count 6 = .ok (.i2l, 1) := by decide +kernel
theorem dX12_count_7 : decode cX12_count 7 = .ok (.lconst 0, 1) := by decide +kernel
theorem dX12_count_8 : decode cX12_count 8 = .ok (.ldc2_w 242, 3) := by decide +kernel
theorem dX12_count_11 : decode cX12_count 11 = .ok (.invokestatic 79, 3) := by decide +kernel
theorem dX12_count_14 : decode cX12_count 14 = .ok (.ifCond .eq 10, 3) := by decide +kernel
theorem dX12_count_17 : decode cX12_count 17 = .ok (.aload_n 0, 1) := by decide +kernel
theorem dX12_count_18 : decode cX12_count 18 = .ok (.getfield 34, 3) := by decide +kernel
theorem dX12_count_21 : decode cX12_count 21 = .ok (.iload_n 1, 1) := by decide +kernel
theorem dX12_count_22 : decode cX12_count 22 = .ok (.iaload, 1) := by decide +kernel
theorem dX12_count_23 : decode cX12_count 23 = .ok (.ireturn, 1) := by decide +kernel
theorem dX12_count_24 : decode cX12_count 24 = .ok (.iconst 0, 1) := by decide +kernel
theorem dX12_count_25 : decode cX12_count 25 = .ok (.istore_n 2, 1) := by decide +kernel
theorem dX12_count_26 : decode cX12_count 26 = .ok (.iload_n 1, 1) := by decide +kernel
theorem dX12_count_27 : decode cX12_count 27 = .ok (.tableswitch 90 5 9 #[33, 38, 45, 52, 57], 33) := by decide +kernel
theorem dX12_count_60 : decode cX12_count 60 = .ok (.aload_n 0, 1) := by decide +kernel
theorem dX12_count_61 : decode cX12_count 61 = .ok (.invokevirtual 357, 3) := by decide +kernel
theorem dX12_count_64 : decode cX12_count 64 = .ok (.ireturn, 1) := by decide +kernel
theorem dX12_count_65 : decode cX12_count 65 = .ok (.aload_n 0, 1) := by decide +kernel
theorem dX12_count_66 : decode cX12_count 66 = .ok (.getfield 34, 3) := by decide +kernel
theorem dX12_count_69 : decode cX12_count 69 = .ok (.iconst 5, 1) := by decide +kernel
theorem dX12_count_70 : decode cX12_count 70 = .ok (.iaload, 1) := by decide +kernel
theorem dX12_count_71 : decode cX12_count 71 = .ok (.ireturn, 1) := by decide +kernel
theorem dX12_count_72 : decode cX12_count 72 = .ok (.aload_n 0, 1) := by decide +kernel
theorem dX12_count_73 : decode cX12_count 73 = .ok (.getfield 31, 3) := by decide +kernel
theorem dX12_count_76 : decode cX12_count 76 = .ok (.iconst 0, 1) := by decide +kernel
theorem dX12_count_77 : decode cX12_count 77 = .ok (.iaload, 1) := by decide +kernel
theorem dX12_count_78 : decode cX12_count 78 = .ok (.ireturn, 1) := by decide +kernel
theorem dX12_count_79 : decode cX12_count 79 = .ok (.aload_n 0, 1) := by decide +kernel
theorem dX12_count_80 : decode cX12_count 80 = .ok (.getfield 91, 3) := by decide +kernel
theorem dX12_count_83 : decode cX12_count 83 = .ok (.ireturn, 1) := by decide +kernel
theorem dX12_count_84 : decode cX12_count 84 = .ok (.iconst 0, 1) := by decide +kernel
theorem dX12_count_85 : decode cX12_count 85 = .ok (.istore_n 3, 1) := by decide +kernel
theorem dX12_count_86 : decode cX12_count 86 = .ok (.iload_n 3, 1) := by decide +kernel
theorem dX12_count_87 : decode cX12_count 87 = .ok (.iconst 4, 1) := by decide +kernel
theorem dX12_count_88 : decode cX12_count 88 = .ok (.if_icmp .ge 27, 3) := by decide +kernel
theorem dX12_count_91 : decode cX12_count 91 = .ok (.iload_n 2, 1) := by decide +kernel
theorem dX12_count_92 : decode cX12_count 92 = .ok (.aload_n 0, 1) := by decide +kernel
theorem dX12_count_93 : decode cX12_count 93 = .ok (.getfield 7, 3) := by decide +kernel
theorem dX12_count_96 : decode cX12_count 96 = .ok (.iload_n 3, 1) := by decide +kernel
theorem dX12_count_97 : decode cX12_count 97 = .ok (.iaload, 1) := by decide +kernel
theorem dX12_count_98 : decode cX12_count 98 = .ok (.iconst (-1), 1) := by decide +kernel
theorem dX12_count_99 : decode cX12_count 99 = .ok (.if_icmp .ne 7, 3) := by decide +kernel
theorem dX12_count_102 : decode cX12_count 102 = .ok (.iconst 0, 1) := by decide +kernel
theorem dX12_count_103 : decode cX12_count 103 = .ok (.goto 4, 3) := by decide +kernel
theorem dX12_count_107 : decode cX12_count 107 = .ok (.iadd, 1) := by decide +kernel
theorem dX12_count_108 : decode cX12_count 108 = .ok (.istore_n 2, 1) := by decide +kernel
theorem dX12_count_109 : decode cX12_count 109 = .ok (.iinc 3 1, 3) := by decide +kernel
theorem dX12_count_112 : decode cX12_count 112 = .ok (.goto (-26), 3) := by decide +kernel
theorem dX12_count_115 : decode cX12_count 115 = .ok (.iload_n 2, 1) := by decide +kernel
theorem dX12_count_116 : decode cX12_count 116 = .ok (.ireturn, 1) := by decide +kernel
theorem dX12_count_117 : decode cX12_count 117 = .ok (.iconst (-1), 1) := by decide +kernel
theorem dX12_count_118 : decode cX12_count 118 = .ok (.ireturn, 1) := by decide +kernel
theorem dX12_image_0 : decode cX12_image 0 = .ok (.aload_n 0, 1) := by decide +kernel
theorem dX12_image_1 : decode cX12_image 1 = .ok (.iconst 0, 1) := by decide +kernel
theorem dX12_image_2 : decode cX12_image 2 = .ok (.putfield 74, 3) := by decide +kernel
theorem dX12_image_5 : decode cX12_image 5 = .ok (.iload_n 1, 1) := by decide +kernel
theorem dX12_image_6 : decode cX12_image 6 = .ok (.i2l, 1) := by decide +kernel
theorem dX12_image_7 : decode cX12_image 7 = .ok (.lconst 0, 1) := by decide +kernel
theorem dX12_image_8 : decode cX12_image 8 = .ok (.ldc2_w 453, 3) := by decide +kernel
theorem dX12_image_11 : decode cX12_image 11 = .ok (.invokestatic 79, 3) := by decide +kernel
theorem dX12_image_14 : decode cX12_image 14 = .ok (.ifCond .ne 6, 3) := by decide +kernel
theorem dX12_image_17 : decode cX12_image 17 = .ok (.bipush (-2), 2) := by decide +kernel
theorem dX12_image_19 : decode cX12_image 19 = .ok (.ireturn, 1) := by decide +kernel
theorem dX12_image_20 : decode cX12_image 20 = .ok (.aload_n 0, 1) := by decide +kernel
theorem dX12_image_21 : decode cX12_image 21 = .ok (.iconst 0, 1) := by decide +kernel
theorem dX12_image_22 : decode cX12_image 22 = .ok (.iconst 1, 1) := by decide +kernel
theorem dX12_image_23 : decode cX12_image 23 = .ok (.iload_n 1, 1) := by decide +kernel
theorem dX12_image_24 : decode cX12_image 24 = .ok (.iadd, 1) := by decide +kernel
theorem dX12_image_25 : decode cX12_image 25 = .ok (.invokevirtual 226, 3) := by decide +kernel
theorem dX12_image_28 : decode cX12_image 28 = .ok (.aload_n 0, 1) := by decide +kernel
theorem dX12_image_29 : decode cX12_image 29 = .ok (.getfield 50, 3) := by decide +kernel
theorem dX12_image_32 : decode cX12_image 32 = .ok (.iload_n 1, 1) := by decide +kernel
theorem dX12_image_33 : decode cX12_image 33 = .ok (.iconst 1, 1) := by decide +kernel
theorem dX12_image_34 : decode cX12_image 34 = .ok (.bastore, 1) := by decide +kernel
theorem dX12_image_35 : decode cX12_image 35 = .ok (.iconst 0, 1) := by decide +kernel
theorem dX12_image_36 : decode cX12_image 36 = .ok (.ireturn, 1) := by decide +kernel
theorem dX12_back_0 : decode cX12_back 0 = .ok (.aload_n 0, 1) := by decide +kernel
theorem dX12_back_1 : decode cX12_back 1 = .ok (.iconst 0, 1) := by decide +kernel
theorem dX12_back_2 : decode cX12_back 2 = .ok (.putfield 74, 3) := by decide +kernel
theorem dX12_back_5 : decode cX12_back 5 = .ok (.iload_n 1, 1) := by decide +kernel
theorem dX12_back_6 : decode cX12_back 6 = .ok (.i2l, 1) := by decide +kernel
theorem dX12_back_7 : decode cX12_back 7 = .ok (.lconst 0, 1) := by decide +kernel
theorem dX12_back_8 : decode cX12_back 8 = .ok (.ldc2_w 453, 3) := by decide +kernel
theorem dX12_back_11 : decode cX12_back 11 = .ok (.invokestatic 79, 3) := by decide +kernel
theorem dX12_back_14 : decode cX12_back 14 = .ok (.ifCond .ne 6, 3) := by decide +kernel
theorem dX12_back_17 : decode cX12_back 17 = .ok (.bipush (-2), 2) := by decide +kernel
theorem dX12_back_19 : decode cX12_back 19 = .ok (.ireturn, 1) := by decide +kernel
theorem dX12_back_20 : decode cX12_back 20 = .ok (.aload_n 0, 1) := by decide +kernel
theorem dX12_back_21 : decode cX12_back 21 = .ok (.getfield 50, 3) := by decide +kernel
theorem dX12_back_24 : decode cX12_back 24 = .ok (.iload_n 1, 1) := by decide +kernel
theorem dX12_back_25 : decode cX12_back 25 = .ok (.baload, 1) := by decide +kernel
theorem dX12_back_26 : decode cX12_back 26 = .ok (.ifCond .ne 6, 3) := by decide +kernel
theorem dX12_back_29 : decode cX12_back 29 = .ok (.bipush (-6), 2) := by decide +kernel
theorem dX12_back_31 : decode cX12_back 31 = .ok (.ireturn, 1) := by decide +kernel
theorem dX12_row_0 : decode cX12_row 0 = .ok (.aload_n 0, 1) := by decide +kernel
theorem dX12_row_1 : decode cX12_row 1 = .ok (.iconst 0, 1) := by decide +kernel
theorem dX12_row_2 : decode cX12_row 2 = .ok (.putfield 74, 3) := by decide +kernel
theorem dX12_row_5 : decode cX12_row 5 = .ok (.iload_n 1, 1) := by decide +kernel
theorem dX12_row_6 : decode cX12_row 6 = .ok (.invokestatic 83, 3) := by decide +kernel
theorem dX12_row_9 : decode cX12_row 9 = .ok (.ifCond .eq 21, 3) := by decide +kernel
theorem dX12_row_12 : decode cX12_row 12 = .ok (.iload_n 2, 1) := by decide +kernel
theorem dX12_row_13 : decode cX12_row 13 = .ok (.i2l, 1) := by decide +kernel
theorem dX12_row_14 : decode cX12_row 14 = .ok (.lconst 0, 1) := by decide +kernel
theorem dX12_row_15 : decode cX12_row 15 = .ok (.ldc2_w 77, 3) := by decide +kernel
theorem dX12_row_18 : decode cX12_row 18 = .ok (.invokestatic 79, 3) := by decide +kernel
theorem dX12_row_21 : decode cX12_row 21 = .ok (.ifCond .eq 9, 3) := by decide +kernel
theorem dX12_row_24 : decode cX12_row 24 = .ok (.iload_n 3, 1) := by decide +kernel
theorem dX12_row_25 : decode cX12_row 25 = .ok (.bipush 60, 2) := by decide +kernel
theorem dX12_row_27 : decode cX12_row 27 = .ok (.if_icmp .le 6, 3) := by decide +kernel
theorem dX12_row_30 : decode cX12_row 30 = .ok (.bipush (-2), 2) := by decide +kernel
theorem dX12_row_32 : decode cX12_row 32 = .ok (.ireturn, 1) := by decide +kernel
theorem dX12_row_33 : decode cX12_row 33 = .ok (.iload_n 3, 1) := by decide +kernel
theorem dX12_row_34 : decode cX12_row 34 = .ok (.ifCond .ge 6, 3) := by decide +kernel
theorem dX12_row_37 : decode cX12_row 37 = .ok (.bipush (-3), 2) := by decide +kernel
theorem dX12_row_39 : decode cX12_row 39 = .ok (.ireturn, 1) := by decide +kernel
theorem dX12_row_40 : decode cX12_row 40 = .ok (.aload_n 0, 1) := by decide +kernel
theorem dX12_row_41 : decode cX12_row 41 = .ok (.getfield 7, 3) := by decide +kernel
theorem dX12_row_44 : decode cX12_row 44 = .ok (.iload_n 1, 1) := by decide +kernel
theorem dX12_row_45 : decode cX12_row 45 = .ok (.iload_n 2, 1) := by decide +kernel
theorem dX12_row_46 : decode cX12_row 46 = .ok (.iastore, 1) := by decide +kernel
theorem dX12_row_47 : decode cX12_row 47 = .ok (.aload_n 0, 1) := by decide +kernel
theorem dX12_row_48 : decode cX12_row 48 = .ok (.getfield 13, 3) := by decide +kernel
theorem dX12_row_51 : decode cX12_row 51 = .ok (.iload_n 1, 1) := by decide +kernel
theorem dX12_row_52 : decode cX12_row 52 = .ok (.iload_n 3, 1) := by decide +kernel
theorem dX12_row_53 : decode cX12_row 53 = .ok (.iastore, 1) := by decide +kernel
theorem dX12_row_54 : decode cX12_row 54 = .ok (.iconst 0, 1) := by decide +kernel
theorem dX12_row_55 : decode cX12_row 55 = .ok (.istore 4, 2) := by decide +kernel
theorem dX12_row_57 : decode cX12_row 57 = .ok (.iload 4, 2) := by decide +kernel
theorem dX12_row_59 : decode cX12_row 59 = .ok (.iload_n 3, 1) := by decide +kernel
theorem dX12_row_60 : decode cX12_row 60 = .ok (.if_icmp .ge 22, 3) := by decide +kernel
theorem dX12_row_63 : decode cX12_row 63 = .ok (.aload_n 0, 1) := by decide +kernel
theorem dX12_row_64 : decode cX12_row 64 = .ok (.getfield 16, 3) := by decide +kernel
theorem dX12_row_67 : decode cX12_row 67 = .ok (.bipush 60, 2) := by decide +kernel
theorem dX12_row_69 : decode cX12_row 69 = .ok (.iload_n 1, 1) := by decide +kernel
theorem dX12_row_70 : decode cX12_row 70 = .ok (.imul, 1) := by decide +kernel
theorem dX12_row_71 : decode cX12_row 71 = .ok (.iload 4, 2) := by decide +kernel
theorem dX12_row_73 : decode cX12_row 73 = .ok (.iadd, 1) := by decide +kernel
theorem dX12_row_74 : decode cX12_row 74 = .ok (.lconst 0, 1) := by decide +kernel
theorem dX12_row_75 : decode cX12_row 75 = .ok (.lastore, 1) := by decide +kernel
theorem dX12_row_76 : decode cX12_row 76 = .ok (.iinc 4 1, 3) := by decide +kernel
theorem dX12_row_79 : decode cX12_row 79 = .ok (.goto (-22), 3) := by decide +kernel
theorem dX12_row_82 : decode cX12_row 82 = .ok (.iconst 0, 1) := by decide +kernel
theorem dX12_row_83 : decode cX12_row 83 = .ok (.ireturn, 1) := by decide +kernel
theorem dX12_write_0 : decode cX12_write 0 = .ok (.aload_n 0, 1) := by decide +kernel
theorem dX12_write_1 : decode cX12_write 1 = .ok (.iconst 0, 1) := by decide +kernel
theorem dX12_write_2 : decode cX12_write 2 = .ok (.putfield 74, 3) := by decide +kernel
theorem dX12_write_5 : decode cX12_write 5 = .ok (.iload_n 1, 1) := by decide +kernel
theorem dX12_write_6 : decode cX12_write 6 = .ok (.invokestatic 83, 3) := by decide +kernel
theorem dX12_write_9 : decode cX12_write 9 = .ok (.ifCond .ne 6, 3) := by decide +kernel
theorem dX12_write_12 : decode cX12_write 12 = .ok (.bipush (-2), 2) := by decide +kernel
theorem dX12_write_14 : decode cX12_write 14 = .ok (.ireturn, 1) := by decide +kernel
theorem dX12_write_15 : decode cX12_write 15 = .ok (.aload_n 0, 1) := by decide +kernel
theorem dX12_write_16 : decode cX12_write 16 = .ok (.getfield 7, 3) := by decide +kernel
theorem dX12_write_19 : decode cX12_write 19 = .ok (.iload_n 1, 1) := by decide +kernel
theorem dX12_write_20 : decode cX12_write 20 = .ok (.iaload, 1) := by decide +kernel
theorem dX12_write_21 : decode cX12_write 21 = .ok (.iconst (-1), 1) := by decide +kernel
theorem dX12_write_22 : decode cX12_write 22 = .ok (.if_icmp .ne 6, 3) := by decide +kernel
theorem dX12_write_25 : decode cX12_write 25 = .ok (.bipush (-6), 2) := by decide +kernel
theorem dX12_write_27 : decode cX12_write 27 = .ok (.ireturn, 1) := by decide +kernel
theorem dX12_paste_0 : decode cX12_paste 0 = .ok (.aload_n 0, 1) := by decide +kernel
theorem dX12_paste_1 : decode cX12_paste 1 = .ok (.iconst 0, 1) := by decide +kernel
theorem dX12_paste_2 : decode cX12_paste 2 = .ok (.putfield 74, 3) := by decide +kernel
theorem dX12_paste_5 : decode cX12_paste 5 = .ok (.iload_n 1, 1) := by decide +kernel
theorem dX12_paste_6 : decode cX12_paste 6 = .ok (.invokestatic 83, 3) := by decide +kernel
theorem dX12_paste_9 : decode cX12_paste 9 = .ok (.ifCond .eq 10, 3) := by decide +kernel
theorem dX12_paste_12 : decode cX12_paste 12 = .ok (.iload_n 3, 1) := by decide +kernel
theorem dX12_paste_13 : decode cX12_paste 13 = .ok (.invokestatic 83, 3) := by decide +kernel
theorem dX12_paste_16 : decode cX12_paste 16 = .ok (.ifCond .ne 6, 3) := by decide +kernel
theorem dX12_paste_19 : decode cX12_paste 19 = .ok (.bipush (-2), 2) := by decide +kernel
theorem dX12_paste_21 : decode cX12_paste 21 = .ok (.ireturn, 1) := by decide +kernel
theorem dX12_paste_22 : decode cX12_paste 22 = .ok (.aload_n 0, 1) := by decide +kernel
theorem dX12_paste_23 : decode cX12_paste 23 = .ok (.getfield 7, 3) := by decide +kernel
theorem dX12_paste_26 : decode cX12_paste 26 = .ok (.iload_n 1, 1) := by decide +kernel
theorem dX12_paste_27 : decode cX12_paste 27 = .ok (.iaload, 1) := by decide +kernel
theorem dX12_paste_28 : decode cX12_paste 28 = .ok (.iconst (-1), 1) := by decide +kernel
theorem dX12_paste_29 : decode cX12_paste 29 = .ok (.if_icmp .eq 13, 3) := by decide +kernel
theorem dX12_paste_42 : decode cX12_paste 42 = .ok (.bipush (-6), 2) := by decide +kernel
theorem dX12_paste_44 : decode cX12_paste 44 = .ok (.ireturn, 1) := by decide +kernel
