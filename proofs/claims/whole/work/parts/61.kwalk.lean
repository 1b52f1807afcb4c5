/-! ===== the constructors ===== -/
theorem dX0_init_0 : decode cX0_init 0 = .ok (.aload_n 0, 1) := by decide +kernel
theorem dX0_init_1 : decode cX0_init 1 = .ok (.bipush 8, 2) := by decide +kernel
theorem dX0_init_3 : decode cX0_init 3 = .ok (.iconst 5, 1) := by decide +kernel
theorem dX0_init_4 : decode cX0_init 4 = .ok (.multianewarray 5 2, 4) := by decide +kernel
theorem dX0_init_8 : decode cX0_init 8 = .ok (.bipush 8, 2) := by decide +kernel
theorem dX0_init_10 : decode cX0_init 10 = .ok (.iconst 5, 1) := by decide +kernel
theorem dX0_init_11 : decode cX0_init 11 = .ok (.invokespecial 7, 3) := by decide +kernel
theorem dX0_init_14 : decode cX0_init 14 = .ok (.return_, 1) := by decide +kernel
theorem dX1_init_0 : decode cX1_init 0 = .ok (.aload_n 0, 1) := by decide +kernel
theorem dX1_init_1 : decode cX1_init 1 = .ok (.invokespecial 3, 3) := by decide +kernel
theorem dX1_init_4 : decode cX1_init 4 = .ok (.aload_n 0, 1) := by decide +kernel
theorem dX1_init_5 : decode cX1_init 5 = .ok (.bipush 8, 2) := by decide +kernel
theorem dX1_init_7 : decode cX1_init 7 = .ok (.newarray .int, 2) := by decide +kernel
theorem dX1_init_9 : decode cX1_init 9 = .ok (.putfield 9, 3) := by decide +kernel
theorem dX1_init_12 : decode cX1_init 12 = .ok (.aload_n 0, 1) := by decide +kernel
theorem dX1_init_13 : decode cX1_init 13 = .ok (.bipush 8, 2) := by decide +kernel
theorem dX1_init_15 : decode cX1_init 15 = .ok (.newarray .int, 2) := by decide +kernel
theorem dX1_init_17 : decode cX1_init 17 = .ok (.putfield 15, 3) := by decide +kernel
theorem dX1_init_20 : decode cX1_init 20 = .ok (.aload_n 0, 1) := by decide +kernel
theorem dX1_init_21 : decode cX1_init 21 = .ok (.bipush 8, 2) := by decide +kernel
theorem dX1_init_23 : decode cX1_init 23 = .ok (.newarray .int, 2) := by decide +kernel
theorem dX1_init_25 : decode cX1_init 25 = .ok (.putfield 18, 3) := by decide +kernel
theorem dX1_init_28 : decode cX1_init 28 = .ok (.return_, 1) := by decide +kernel
theorem dX2_init_0 : decode cX2_init 0 = .ok (.aload_n 0, 1) := by decide +kernel
theorem dX2_init_1 : decode cX2_init 1 = .ok (.invokespecial 1, 3) := by decide +kernel
theorem dX2_init_4 : decode cX2_init 4 = .ok (.return_, 1) := by decide +kernel
theorem dX3_init_0 : decode cX3_init 0 = .ok (.aload_n 0, 1) := by decide +kernel
theorem dX3_init_1 : decode cX3_init 1 = .ok (.invokespecial 3, 3) := by decide +kernel
theorem dX3_init_4 : decode cX3_init 4 = .ok (.aload_n 0, 1) := by decide +kernel
theorem dX3_init_5 : decode cX3_init 5 = .ok (.bipush 6, 2) := by decide +kernel
theorem dX3_init_7 : decode cX3_init 7 = .ok (.bipush 8, 2) := by decide +kernel
theorem dX3_init_9 : decode cX3_init 9 = .ok (.multianewarray 11 2, 4) := by decide +kernel
theorem dX3_init_13 : decode cX3_init 13 = .ok (.putfield 13, 3) := by decide +kernel
theorem dX3_init_16 : decode cX3_init 16 = .ok (.aload_n 0, 1) := by decide +kernel
theorem dX3_init_17 : decode cX3_init 17 = .ok (.bipush 6, 2) := by decide +kernel
theorem dX3_init_19 : decode cX3_init 19 = .ok (.sipush 192, 3) := by decide +kernel
theorem dX3_init_22 : decode cX3_init 22 = .ok (.multianewarray 11 2, 4) := by decide +kernel
theorem dX3_init_26 : decode cX3_init 26 = .ok (.putfield 16, 3) := by decide +kernel
theorem dX3_init_29 : decode cX3_init 29 = .ok (.aload_n 0, 1) := by decide +kernel
theorem dX3_init_30 : decode cX3_init 30 = .ok (.bipush 36, 2) := by decide +kernel
theorem dX3_init_32 : decode cX3_init 32 = .ok (.newarray .int, 2) := by decide +kernel
theorem dX3_init_34 : decode cX3_init 34 = .ok (.putfield 19, 3) := by decide +kernel
theorem dX3_init_37 : decode cX3_init 37 = .ok (.aload_n 0, 1) := by decide +kernel
theorem dX3_init_38 : decode cX3_init 38 = .ok (.bipush 24, 2) := by decide +kernel
theorem dX3_init_40 : decode cX3_init 40 = .ok (.newarray .int, 2) := by decide +kernel
theorem dX3_init_42 : decode cX3_init 42 = .ok (.putfield 23, 3) := by decide +kernel
theorem dX3_init_45 : decode cX3_init 45 = .ok (.aload_n 0, 1) := by decide +kernel
theorem dX3_init_46 : decode cX3_init 46 = .ok (.bipush 24, 2) := by decide +kernel
theorem dX3_init_48 : decode cX3_init 48 = .ok (.newarray .int, 2) := by decide +kernel
theorem dX3_init_50 : decode cX3_init 50 = .ok (.putfield 26, 3) := by decide +kernel
theorem dX3_init_53 : decode cX3_init 53 = .ok (.aload_n 0, 1) := by decide +kernel
theorem dX3_init_54 : decode cX3_init 54 = .ok (.iconst (-1), 1) := by decide +kernel
theorem dX3_init_55 : decode cX3_init 55 = .ok (.putfield 29, 3) := by decide +kernel
theorem dX3_init_58 : decode cX3_init 58 = .ok (.aload_n 0, 1) := by decide +kernel
theorem dX3_init_59 : decode cX3_init 59 = .ok (.iconst (-1), 1) := by decide +kernel
theorem dX3_init_60 : decode cX3_init 60 = .ok (.putfield 33, 3) := by decide +kernel
theorem dX3_init_63 : decode cX3_init 63 = .ok (.return_, 1) := by decide +kernel
theorem dX4_init_0 : decode cX4_init 0 = .ok (.aload_n 0, 1) := by decide +kernel
theorem dX4_init_1 : decode cX4_init 1 = .ok (.invokespecial 3, 3) := by decide +kernel
theorem dX4_init_4 : decode cX4_init 4 = .ok (.aload_n 0, 1) := by decide +kernel
theorem dX4_init_5 : decode cX4_init 5 = .ok (.iconst 4, 1) := by decide +kernel
theorem dX4_init_6 : decode cX4_init 6 = .ok (.bipush 60, 2) := by decide +kernel
theorem dX4_init_8 : decode cX4_init 8 = .ok (.multianewarray 11 2, 4) := by decide +kernel
theorem dX4_init_12 : decode cX4_init 12 = .ok (.putfield 13, 3) := by decide +kernel
theorem dX4_init_15 : decode cX4_init 15 = .ok (.aload_n 0, 1) := by decide +kernel
theorem dX4_init_16 : decode cX4_init 16 = .ok (.iconst 4, 1) := by decide +kernel
theorem dX4_init_17 : decode cX4_init 17 = .ok (.newarray .int, 2) := by decide +kernel
theorem dX4_init_19 : decode cX4_init 19 = .ok (.putfield 16, 3) := by decide +kernel
theorem dX4_init_22 : decode cX4_init 22 = .ok (.aload_n 0, 1) := by decide +kernel
theorem dX4_init_23 : decode cX4_init 23 = .ok (.iconst 4, 1) := by decide +kernel
theorem dX4_init_24 : decode cX4_init 24 = .ok (.newarray .int, 2) := by decide +kernel
theorem dX4_init_26 : decode cX4_init 26 = .ok (.dup, 1) := by decide +kernel
theorem dX4_init_27 : decode cX4_init 27 = .ok (.iconst 0, 1) := by decide +kernel
theorem dX4_init_28 : decode cX4_init 28 = .ok (.iconst (-1), 1) := by decide +kernel
theorem dX4_init_29 : decode cX4_init 29 = .ok (.iastore, 1) := by decide +kernel
theorem dX4_init_30 : decode cX4_init 30 = .ok (.dup, 1) := by decide +kernel
theorem dX4_init_31 : decode cX4_init 31 = .ok (.iconst 1, 1) := by decide +kernel
theorem dX4_init_32 : decode cX4_init 32 = .ok (.iconst (-1), 1) := by decide +kernel
theorem dX4_init_33 : decode cX4_init 33 = .ok (.iastore, 1) := by decide +kernel
theorem dX4_init_34 : decode cX4_init 34 = .ok (.dup, 1) := by decide +kernel
theorem dX4_init_35 : decode cX4_init 35 = .ok (.iconst 2, 1) := by decide +kernel
theorem dX4_init_36 : decode cX4_init 36 = .ok (.iconst (-1), 1) := by decide +kernel
theorem dX4_init_37 : decode cX4_init 37 = .ok (.iastore, 1) := by decide +kernel
theorem dX4_init_38 : decode cX4_init 38 = .ok (.dup, 1) := by decide +kernel
theorem dX4_init_39 : decode cX4_init 39 = .ok (.iconst 3, 1) := by decide +kernel
theorem dX4_init_40 : decode cX4_init 40 = .ok (.iconst (-1), 1) := by decide +kernel
theorem dX4_init_41 : decode cX4_init 41 = .ok (.iastore, 1) := by decide +kernel
theorem dX4_init_42 : decode cX4_init 42 = .ok (.putfield 20, 3) := by decide +kernel
theorem dX4_init_45 : decode cX4_init 45 = .ok (.return_, 1) := by decide +kernel
theorem dX5_init_0 : decode cX5_init 0 = .ok (.aload_n 0, 1) := by decide +kernel
theorem dX5_init_1 : decode cX5_init 1 = .ok (.invokespecial 3, 3) := by decide +kernel
theorem dX5_init_4 : decode cX5_init 4 = .ok (.aload_n 0, 1) := by decide +kernel
theorem dX5_init_5 : decode cX5_init 5 = .ok (.bipush 8, 2) := by decide +kernel
theorem dX5_init_7 : decode cX5_init 7 = .ok (.newarray .int, 2) := by decide +kernel
theorem dX5_init_9 : decode cX5_init 9 = .ok (.putfield 9, 3) := by decide +kernel
theorem dX5_init_12 : decode cX5_init 12 = .ok (.aload_n 0, 1) := by decide +kernel
theorem dX5_init_13 : decode cX5_init 13 = .ok (.bipush 8, 2) := by decide +kernel
theorem dX5_init_15 : decode cX5_init 15 = .ok (.newarray .int, 2) := by decide +kernel
theorem dX5_init_17 : decode cX5_init 17 = .ok (.putfield 15, 3) := by decide +kernel
theorem dX5_init_20 : decode cX5_init 20 = .ok (.aload_n 0, 1) := by decide +kernel
theorem dX5_init_21 : decode cX5_init 21 = .ok (.bipush 8, 2) := by decide +kernel
theorem dX5_init_23 : decode cX5_init 23 = .ok (.newarray .int, 2) := by decide +kernel
theorem dX5_init_25 : decode cX5_init 25 = .ok (.putfield 18, 3) := by decide +kernel
theorem dX5_init_28 : decode cX5_init 28 = .ok (.aload_n 0, 1) := by decide +kernel
theorem dX5_init_29 : decode cX5_init 29 = .ok (.bipush 8, 2) := by decide +kernel
theorem dX5_init_31 : decode cX5_init 31 = .ok (.newarray .int, 2) := by decide +kernel
theorem dX5_init_33 : decode cX5_init 33 = .ok (.putfield 21, 3) := by decide +kernel
theorem dX5_init_36 : decode cX5_init 36 = .ok (.return_, 1) := by decide +kernel
theorem dX6_init_0 : decode cX6_init 0 = .ok (.aload_n 0, 1) := by decide +kernel
theorem dX6_init_1 : decode cX6_init 1 = .ok (.bipush 13, 2) := by decide +kernel
theorem dX6_init_3 : decode cX6_init 3 = .ok (.iconst 3, 1) := by decide +kernel
theorem dX6_init_4 : decode cX6_init 4 = .ok (.multianewarray 5 2, 4) := by decide +kernel
theorem dX6_init_8 : decode cX6_init 8 = .ok (.bipush 12, 2) := by decide +kernel
theorem dX6_init_10 : decode cX6_init 10 = .ok (.iconst 3, 1) := by decide +kernel
theorem dX6_init_11 : decode cX6_init 11 = .ok (.invokespecial 7, 3) := by decide +kernel
theorem dX6_init_14 : decode cX6_init 14 = .ok (.return_, 1) := by decide +kernel
theorem dX7_init_0 : decode cX7_init 0 = .ok (.aload_n 0, 1) := by decide +kernel
theorem dX7_init_1 : decode cX7_init 1 = .ok (.invokespecial 3, 3) := by decide +kernel
theorem dX7_init_4 : decode cX7_init 4 = .ok (.aload_n 0, 1) := by decide +kernel
theorem dX7_init_5 : decode cX7_init 5 = .ok (.bipush 47, 2) := by decide +kernel
theorem dX7_init_7 : decode cX7_init 7 = .ok (.newarray .int, 2) := by decide +kernel
theorem dX7_init_9 : decode cX7_init 9 = .ok (.putfield 9, 3) := by decide +kernel
theorem dX7_init_12 : decode cX7_init 12 = .ok (.return_, 1) := by decide +kernel
theorem dX8_init_0 : decode cX8_init 0 = .ok (.aload_n 0, 1) := by decide +kernel
theorem dX8_init_1 : decode cX8_init 1 = .ok (.invokespecial 3, 3) := by decide +kernel
theorem dX8_init_4 : decode cX8_init 4 = .ok (.aload_n 0, 1) := by decide +kernel
theorem dX8_init_5 : decode cX8_init 5 = .ok (.iconst (-1), 1) := by decide +kernel
theorem dX8_init_6 : decode cX8_init 6 = .ok (.putfield 9, 3) := by decide +kernel
theorem dX8_init_9 : decode cX8_init 9 = .ok (.aload_n 0, 1) := by decide +kernel
theorem dX8_init_10 : decode cX8_init 10 = .ok (.aload_n 1, 1) := by decide +kernel
theorem dX8_init_11 : decode cX8_init 11 = .ok (.putfield 15, 3) := by decide +kernel
theorem dX8_init_14 : decode cX8_init 14 = .ok (.aload_n 0, 1) := by decide +kernel
theorem dX8_init_15 : decode cX8_init 15 = .ok (.iload_n 2, 1) := by decide +kernel
theorem dX8_init_16 : decode cX8_init 16 = .ok (.putfield 19, 3) := by decide +kernel
theorem dX8_init_19 : decode cX8_init 19 = .ok (.aload_n 0, 1) := by decide +kernel
theorem dX8_init_20 : decode cX8_init 20 = .ok (.iload_n 3, 1) := by decide +kernel
theorem dX8_init_21 : decode cX8_init 21 = .ok (.putfield 22, 3) := by decide +kernel
theorem dX8_init_24 : decode cX8_init 24 = .ok (.return_, 1) := by decide +kernel
theorem dX9_init_0 : decode cX9_init 0 = .ok (.aload_n 0, 1) := by decide +kernel
theorem dX9_init_1 : decode cX9_init 1 = .ok (.invokespecial 3, 3) := by decide +kernel
theorem dX9_init_4 : decode cX9_init 4 = .ok (.aload_n 0, 1) := by decide +kernel
theorem dX9_init_5 : decode cX9_init 5 = .ok (.new 9, 3) := by decide +kernel
theorem dX9_init_8 : decode cX9_init 8 = .ok (.dup, 1) := by decide +kernel
theorem dX9_init_9 : decode cX9_init 9 = .ok (.invokespecial 11, 3) := by decide +kernel
theorem dX9_init_12 : decode cX9_init 12 = .ok (.putfield 12, 3) := by decide +kernel
theorem dX9_init_15 : decode cX9_init 15 = .ok (.aload_n 0, 1) := by decide +kernel
theorem dX9_init_16 : decode cX9_init 16 = .ok (.new 18, 3) := by decide +kernel
theorem dX9_init_19 : decode cX9_init 19 = .ok (.dup, 1) := by decide +kernel
theorem dX9_init_20 : decode cX9_init 20 = .ok (.invokespecial 20, 3) := by decide +kernel
theorem dX9_init_23 : decode cX9_init 23 = .ok (.putfield 21, 3) := by decide +kernel
theorem dX9_init_26 : decode cX9_init 26 = .ok (.aload_n 0, 1) := by decide +kernel
theorem dX9_init_27 : decode cX9_init 27 = .ok (.new 25, 3) := by decide +kernel
theorem dX9_init_30 : decode cX9_init 30 = .ok (.dup, 1) := by decide +kernel
theorem dX9_init_31 : decode cX9_init 31 = .ok (.invokespecial 27, 3) := by decide +kernel
theorem dX9_init_34 : decode cX9_init 34 = .ok (.putfield 28, 3) := by decide +kernel
theorem dX9_init_37 : decode cX9_init 37 = .ok (.aload_n 0, 1) := by decide +kernel
theorem dX9_init_38 : decode cX9_init 38 = .ok (.bipush 10, 2) := by decide +kernel
theorem dX9_init_40 : decode cX9_init 40 = .ok (.bipush 24, 2) := by decide +kernel
theorem dX9_init_42 : decode cX9_init 42 = .ok (.multianewarray 32 2, 4) := by decide +kernel
theorem dX9_init_46 : decode cX9_init 46 = .ok (.putfield 34, 3) := by decide +kernel
theorem dX9_init_49 : decode cX9_init 49 = .ok (.aload_n 0, 1) := by decide +kernel
theorem dX9_init_50 : decode cX9_init 50 = .ok (.sipush 256, 3) := by decide +kernel
theorem dX9_init_53 : decode cX9_init 53 = .ok (.newarray .int, 2) := by decide +kernel
theorem dX9_init_55 : decode cX9_init 55 = .ok (.putfield 37, 3) := by decide +kernel
theorem dX9_init_58 : decode cX9_init 58 = .ok (.aload_n 0, 1) := by decide +kernel
theorem dX9_init_59 : decode cX9_init 59 = .ok (.aload_n 1, 1) := by decide +kernel
theorem dX9_init_60 : decode cX9_init 60 = .ok (.putfield 41, 3) := by decide +kernel
theorem dX9_init_63 : decode cX9_init 63 = .ok (.aload_n 0, 1) := by decide +kernel
theorem dX9_init_64 : decode cX9_init 64 = .ok (.aload_n 2, 1) := by decide +kernel
theorem dX9_init_65 : decode cX9_init 65 = .ok (.putfield 44, 3) := by decide +kernel
theorem dX9_init_68 : decode cX9_init 68 = .ok (.aload_n 0, 1) := by decide +kernel
theorem dX9_init_69 : decode cX9_init 69 = .ok (.aload_n 3, 1) := by decide +kernel
theorem dX9_init_70 : decode cX9_init 70 = .ok (.putfield 48, 3) := by decide +kernel
theorem dX9_init_73 : decode cX9_init 73 = .ok (.aload_n 0, 1) := by decide +kernel
theorem dX9_init_74 : decode cX9_init 74 = .ok (.aload 4, 2) := by decide +kernel
theorem dX9_init_76 : decode cX9_init 76 = .ok (.putfield 51, 3) := by decide +kernel
theorem dX9_init_79 : decode cX9_init 79 = .ok (.return_, 1) := by decide +kernel
theorem dX10_init_0 : decode cX10_init 0 = .ok (.aload_n 0, 1) := by decide +kernel
theorem dX10_init_1 : decode cX10_init 1 = .ok (.invokespecial 3, 3) := by decide +kernel
theorem dX10_init_4 : decode cX10_init 4 = .ok (.aload_n 0, 1) := by decide +kernel
theorem dX10_init_5 : decode cX10_init 5 = .ok (.new 9, 3) := by decide +kernel
theorem dX10_init_8 : decode cX10_init 8 = .ok (.dup, 1) := by decide +kernel
theorem dX10_init_9 : decode cX10_init 9 = .ok (.invokespecial 11, 3) := by decide +kernel
theorem dX10_init_12 : decode cX10_init 12 = .ok (.putfield 12, 3) := by decide +kernel
theorem dX10_init_15 : decode cX10_init 15 = .ok (.aload_n 0, 1) := by decide +kernel
theorem dX10_init_16 : decode cX10_init 16 = .ok (.new 9, 3) := by decide +kernel
theorem dX10_init_19 : decode cX10_init 19 = .ok (.dup, 1) := by decide +kernel
theorem dX10_init_20 : decode cX10_init 20 = .ok (.invokespecial 11, 3) := by decide +kernel
theorem dX10_init_23 : decode cX10_init 23 = .ok (.putfield 16, 3) := by decide +kernel
theorem dX10_init_26 : decode cX10_init 26 = .ok (.aload_n 0, 1) := by decide +kernel
theorem dX10_init_27 : decode cX10_init 27 = .ok (.new 19, 3) := by decide +kernel
theorem dX10_init_30 : decode cX10_init 30 = .ok (.dup, 1) := by decide +kernel
theorem dX10_init_31 : decode cX10_init 31 = .ok (.invokespecial 21, 3) := by decide +kernel
theorem dX10_init_34 : decode cX10_init 34 = .ok (.putfield 22, 3) := by decide +kernel
theorem dX10_init_37 : decode cX10_init 37 = .ok (.aload_n 0, 1) := by decide +kernel
theorem dX10_init_38 : decode cX10_init 38 = .ok (.new 26, 3) := by decide +kernel
theorem dX10_init_41 : decode cX10_init 41 = .ok (.dup, 1) := by decide +kernel
theorem dX10_init_42 : decode cX10_init 42 = .ok (.invokespecial 28, 3) := by decide +kernel
theorem dX10_init_45 : decode cX10_init 45 = .ok (.putfield 29, 3) := by decide +kernel
theorem dX10_init_48 : decode cX10_init 48 = .ok (.aload_n 0, 1) := by decide +kernel
theorem dX10_init_49 : decode cX10_init 49 = .ok (.new 33, 3) := by decide +kernel
theorem dX10_init_52 : decode cX10_init 52 = .ok (.dup, 1) := by decide +kernel
theorem dX10_init_53 : decode cX10_init 53 = .ok (.invokespecial 35, 3) := by decide +kernel
theorem dX10_init_56 : decode cX10_init 56 = .ok (.putfield 36, 3) := by decide +kernel
theorem dX10_init_59 : decode cX10_init 59 = .ok (.aload_n 0, 1) := by decide +kernel
theorem dX10_init_60 : decode cX10_init 60 = .ok (.new 40, 3) := by decide +kernel
theorem dX10_init_63 : decode cX10_init 63 = .ok (.dup, 1) := by decide +kernel
theorem dX10_init_64 : decode cX10_init 64 = .ok (.invokespecial 42, 3) := by decide +kernel
theorem dX10_init_67 : decode cX10_init 67 = .ok (.putfield 43, 3) := by decide +kernel
theorem dX10_init_70 : decode cX10_init 70 = .ok (.aload_n 0, 1) := by decide +kernel
theorem dX10_init_71 : decode cX10_init 71 = .ok (.new 47, 3) := by decide +kernel
theorem dX10_init_74 : decode cX10_init 74 = .ok (.dup, 1) := by decide +kernel
theorem dX10_init_75 : decode cX10_init 75 = .ok (.invokespecial 49, 3) := by decide +kernel
theorem dX10_init_78 : decode cX10_init 78 = .ok (.putfield 50, 3) := by decide +kernel
theorem dX10_init_81 : decode cX10_init 81 = .ok (.aload_n 0, 1) := by decide +kernel
theorem dX10_init_82 : decode cX10_init 82 = .ok (.new 54, 3) := by decide +kernel
theorem dX10_init_85 : decode cX10_init 85 = .ok (.dup, 1) := by decide +kernel
theorem dX10_init_86 : decode cX10_init 86 = .ok (.invokespecial 56, 3) := by decide +kernel
theorem dX10_init_89 : decode cX10_init 89 = .ok (.putfield 57, 3) := by decide +kernel
theorem dX10_init_92 : decode cX10_init 92 = .ok (.aload_n 0, 1) := by decide +kernel
theorem dX10_init_93 : decode cX10_init 93 = .ok (.new 61, 3) := by decide +kernel
theorem dX10_init_96 : decode cX10_init 96 = .ok (.dup, 1) := by decide +kernel
theorem dX10_init_97 : decode cX10_init 97 = .ok (.aload_n 0, 1) := by decide +kernel
theorem dX10_init_98 : decode cX10_init 98 = .ok (.getfield 22, 3) := by decide +kernel
theorem dX10_init_101 : decode cX10_init 101 = .ok (.aload_n 0, 1) := by decide +kernel
theorem dX10_init_102 : decode cX10_init 102 = .ok (.getfield 29, 3) := by decide +kernel
theorem dX10_init_105 : decode cX10_init 105 = .ok (.aload_n 0, 1) := by decide +kernel
theorem dX10_init_106 : decode cX10_init 106 = .ok (.getfield 36, 3) := by decide +kernel
theorem dX10_init_109 : decode cX10_init 109 = .ok (.aload_n 0, 1) := by decide +kernel
theorem dX10_init_110 : decode cX10_init 110 = .ok (.getfield 43, 3) := by decide +kernel
theorem dX10_init_113 : decode cX10_init 113 = .ok (.invokespecial 63, 3) := by decide +kernel
theorem dX10_init_116 : decode cX10_init 116 = .ok (.putfield 66, 3) := by decide +kernel
theorem dX10_init_119 : decode cX10_init 119 = .ok (.aload_n 0, 1) := by decide +kernel
theorem dX10_init_120 : decode cX10_init 120 = .ok (.new 70, 3) := by decide +kernel
theorem dX10_init_123 : decode cX10_init 123 = .ok (.dup, 1) := by decide +kernel
theorem dX10_init_124 : decode cX10_init 124 = .ok (.invokespecial 72, 3) := by decide +kernel
theorem dX10_init_127 : decode cX10_init 127 = .ok (.putfield 73, 3) := by decide +kernel
theorem dX10_init_130 : decode cX10_init 130 = .ok (.aload_n 0, 1) := by decide +kernel
theorem dX10_init_131 : decode cX10_init 131 = .ok (.iconst 1, 1) := by decide +kernel
theorem dX10_init_132 : decode cX10_init 132 = .ok (.putfield 77, 3) := by decide +kernel
theorem dX10_init_135 : decode cX10_init 135 = .ok (.return_, 1) := by decide +kernel
theorem dX11_init_0 : decode cX11_init 0 = .ok (.aload_n 0, 1) := by decide +kernel
theorem dX11_init_1 : decode cX11_init 1 = .ok (.invokespecial 1, 3) := by decide +kernel
theorem dX11_init_4 : decode cX11_init 4 = .ok (.aload_n 0, 1) := by decide +kernel
theorem dX11_init_5 : decode cX11_init 5 = .ok (.iconst 2, 1) := by decide +kernel
theorem dX11_init_6 : decode cX11_init 6 = .ok (.newarray .int, 2) := by decide +kernel
theorem dX11_init_8 : decode cX11_init 8 = .ok (.putfield 7, 3) := by decide +kernel
theorem dX11_init_11 : decode cX11_init 11 = .ok (.aload_n 0, 1) := by decide +kernel
theorem dX11_init_12 : decode cX11_init 12 = .ok (.bipush 94, 2) := by decide +kernel
theorem dX11_init_14 : decode cX11_init 14 = .ok (.newarray .int, 2) := by decide +kernel
theorem dX11_init_16 : decode cX11_init 16 = .ok (.putfield 13, 3) := by decide +kernel
theorem dX11_init_19 : decode cX11_init 19 = .ok (.aload_n 0, 1) := by decide +kernel
theorem dX11_init_20 : decode cX11_init 20 = .ok (.bipush 9, 2) := by decide +kernel
theorem dX11_init_22 : decode cX11_init 22 = .ok (.newarray .int, 2) := by decide +kernel
theorem dX11_init_24 : decode cX11_init 24 = .ok (.putfield 16, 3) := by decide +kernel
theorem dX11_init_27 : decode cX11_init 27 = .ok (.aload_n 0, 1) := by decide +kernel
theorem dX11_init_28 : decode cX11_init 28 = .ok (.bipush 9, 2) := by decide +kernel
theorem dX11_init_30 : decode cX11_init 30 = .ok (.newarray .int, 2) := by decide +kernel
theorem dX11_init_32 : decode cX11_init 32 = .ok (.putfield 19, 3) := by decide +kernel
theorem dX11_init_35 : decode cX11_init 35 = .ok (.aload_n 0, 1) := by decide +kernel
theorem dX11_init_36 : decode cX11_init 36 = .ok (.bipush 9, 2) := by decide +kernel
theorem dX11_init_38 : decode cX11_init 38 = .ok (.newarray .int, 2) := by decide +kernel
theorem dX11_init_40 : decode cX11_init 40 = .ok (.putfield 22, 3) := by decide +kernel
theorem dX11_init_43 : decode cX11_init 43 = .ok (.aload_n 0, 1) := by decide +kernel
theorem dX11_init_44 : decode cX11_init 44 = .ok (.bipush 9, 2) := by decide +kernel
theorem dX11_init_46 : decode cX11_init 46 = .ok (.newarray .int, 2) := by decide +kernel
theorem dX11_init_48 : decode cX11_init 48 = .ok (.putfield 25, 3) := by decide +kernel
theorem dX11_init_51 : decode cX11_init 51 = .ok (.aload_n 0, 1) := by decide +kernel
theorem dX11_init_52 : decode cX11_init 52 = .ok (.bipush 9, 2) := by decide +kernel
theorem dX11_init_54 : decode cX11_init 54 = .ok (.newarray .int, 2) := by decide +kernel
theorem dX11_init_56 : decode cX11_init 56 = .ok (.putfield 28, 3) := by decide +kernel
theorem dX11_init_59 : decode cX11_init 59 = .ok (.aload_n 0, 1) := by decide +kernel
theorem dX11_init_60 : decode cX11_init 60 = .ok (.bipush 13, 2) := by decide +kernel
theorem dX11_init_62 : decode cX11_init 62 = .ok (.newarray .int, 2) := by decide +kernel
theorem dX11_init_64 : decode cX11_init 64 = .ok (.putfield 31, 3) := by decide +kernel
theorem dX11_init_67 : decode cX11_init 67 = .ok (.aload_n 0, 1) := by decide +kernel
theorem dX11_init_68 : decode cX11_init 68 = .ok (.bipush 13, 2) := by decide +kernel
theorem dX11_init_70 : decode cX11_init 70 = .ok (.newarray .int, 2) := by decide +kernel
theorem dX11_init_72 : decode cX11_init 72 = .ok (.putfield 34, 3) := by decide +kernel
theorem dX11_init_75 : decode cX11_init 75 = .ok (.aload_n 0, 1) := by decide +kernel
theorem dX11_init_76 : decode cX11_init 76 = .ok (.bipush 13, 2) := by decide +kernel
theorem dX11_init_78 : decode cX11_init 78 = .ok (.newarray .int, 2) := by decide +kernel
theorem dX11_init_80 : decode cX11_init 80 = .ok (.putfield 37, 3) := by decide +kernel
theorem dX11_init_83 : decode cX11_init 83 = .ok (.aload_n 0, 1) := by decide +kernel
theorem dX11_init_84 : decode cX11_init 84 = .ok (.bipush 9, 2) := by decide +kernel
theorem dX11_init_86 : decode cX11_init 86 = .ok (.newarray .int, 2) := by decide +kernel
theorem dX11_init_88 : decode cX11_init 88 = .ok (.putfield 40, 3) := by decide +kernel
theorem dX11_init_91 : decode cX11_init 91 = .ok (.aload_n 0, 1) := by decide +kernel
theorem dX11_init_92 : decode cX11_init 92 = .ok (.bipush 9, 2) := by decide +kernel
theorem dX11_init_94 : decode cX11_init 94 = .ok (.newarray .int, 2) := by decide +kernel
theorem dX11_init_96 : decode cX11_init 96 = .ok (.putfield 43, 3) := by decide +kernel
theorem dX11_init_99 : decode cX11_init 99 = .ok (.aload_n 0, 1) := by decide +kernel
theorem dX11_init_100 : decode cX11_init 100 = .ok (.bipush 9, 2) := by decide +kernel
theorem dX11_init_102 : decode cX11_init 102 = .ok (.newarray .int, 2) := by decide +kernel
theorem dX11_init_104 : decode cX11_init 104 = .ok (.putfield 46, 3) := by decide +kernel
theorem dX11_init_107 : decode cX11_init 107 = .ok (.aload_n 0, 1) := by decide +kernel
theorem dX11_init_108 : decode cX11_init 108 = .ok (.bipush 9, 2) := by decide +kernel
theorem dX11_init_110 : decode cX11_init 110 = .ok (.newarray .int, 2) := by decide +kernel
theorem dX11_init_112 : decode cX11_init 112 = .ok (.putfield 49, 3) := by decide +kernel
theorem dX11_init_115 : decode cX11_init 115 = .ok (.aload_n 0, 1) := by decide +kernel
theorem dX11_init_116 : decode cX11_init 116 = .ok (.bipush 9, 2) := by decide +kernel
theorem dX11_init_118 : decode cX11_init 118 = .ok (.newarray .int, 2) := by decide +kernel
theorem dX11_init_120 : decode cX11_init 120 = .ok (.putfield 52, 3) := by decide +kernel
theorem dX11_init_123 : decode cX11_init 123 = .ok (.aload_n 0, 1) := by decide +kernel
theorem dX11_init_124 : decode cX11_init 124 = .ok (.bipush 9, 2) := by decide +kernel
theorem dX11_init_126 : decode cX11_init 126 = .ok (.newarray .int, 2) := by decide +kernel
theorem dX11_init_128 : decode cX11_init 128 = .ok (.putfield 55, 3) := by decide +kernel
theorem dX11_init_131 : decode cX11_init 131 = .ok (.aload_n 0, 1) := by decide +kernel
theorem dX11_init_132 : decode cX11_init 132 = .ok (.bipush 8, 2) := by decide +kernel
theorem dX11_init_134 : decode cX11_init 134 = .ok (.newarray .int, 2) := by decide +kernel
theorem dX11_init_136 : decode cX11_init 136 = .ok (.putfield 58, 3) := by decide +kernel
theorem dX11_init_139 : decode cX11_init 139 = .ok (.aload_n 0, 1) := by decide +kernel
theorem dX11_init_140 : decode cX11_init 140 = .ok (.bipush 8, 2) := by decide +kernel
theorem dX11_init_142 : decode cX11_init 142 = .ok (.newarray .int, 2) := by decide +kernel
theorem dX11_init_144 : decode cX11_init 144 = .ok (.putfield 61, 3) := by decide +kernel
theorem dX11_init_147 : decode cX11_init 147 = .ok (.aload_n 0, 1) := by decide +kernel
theorem dX11_init_148 : decode cX11_init 148 = .ok (.bipush 8, 2) := by decide +kernel
theorem dX11_init_150 : decode cX11_init 150 = .ok (.newarray .int, 2) := by decide +kernel
theorem dX11_init_152 : decode cX11_init 152 = .ok (.putfield 64, 3) := by decide +kernel
theorem dX11_init_155 : decode cX11_init 155 = .ok (.aload_n 0, 1) := by decide +kernel
theorem dX11_init_156 : decode cX11_init 156 = .ok (.bipush 8, 2) := by decide +kernel
theorem dX11_init_158 : decode cX11_init 158 = .ok (.newarray .int, 2) := by decide +kernel
theorem dX11_init_160 : decode cX11_init 160 = .ok (.putfield 67, 3) := by decide +kernel
theorem dX11_init_163 : decode cX11_init 163 = .ok (.aload_n 0, 1) := by decide +kernel
theorem dX11_init_164 : decode cX11_init 164 = .ok (.bipush 8, 2) := by decide +kernel
theorem dX11_init_166 : decode cX11_init 166 = .ok (.newarray .int, 2) := by decide +kernel
theorem dX11_init_168 : decode cX11_init 168 = .ok (.putfield 70, 3) := by decide +kernel
theorem dX11_init_171 : decode cX11_init 171 = .ok (.aload_n 0, 1) := by decide +kernel
theorem dX11_init_172 : decode cX11_init 172 = .ok (.bipush 8, 2) := by decide +kernel
theorem dX11_init_174 : decode cX11_init 174 = .ok (.newarray .int, 2) := by decide +kernel
theorem dX11_init_176 : decode cX11_init 176 = .ok (.putfield 73, 3) := by decide +kernel
theorem dX11_init_179 : decode cX11_init 179 = .ok (.aload_n 0, 1) := by decide +kernel
theorem dX11_init_180 : decode cX11_init 180 = .ok (.sipush 192, 3) := by decide +kernel
theorem dX11_init_183 : decode cX11_init 183 = .ok (.newarray .int, 2) := by decide +kernel
theorem dX11_init_185 : decode cX11_init 185 = .ok (.putfield 76, 3) := by decide +kernel
theorem dX11_init_188 : decode cX11_init 188 = .ok (.aload_n 0, 1) := by decide +kernel
theorem dX11_init_189 : decode cX11_init 189 = .ok (.sipush 192, 3) := by decide +kernel
theorem dX11_init_192 : decode cX11_init 192 = .ok (.newarray .int, 2) := by decide +kernel
theorem dX11_init_194 : decode cX11_init 194 = .ok (.putfield 79, 3) := by decide +kernel
theorem dX11_init_197 : decode cX11_init 197 = .ok (.aload_n 0, 1) := by decide +kernel
theorem dX11_init_198 : decode cX11_init 198 = .ok (.sipush 192, 3) := by decide +kernel
theorem dX11_init_201 : decode cX11_init 201 = .ok (.newarray .int, 2) := by decide +kernel
theorem dX11_init_203 : decode cX11_init 203 = .ok (.putfield 82, 3) := by decide +kernel
theorem dX11_init_206 : decode cX11_init 206 = .ok (.aload_n 0, 1) := by decide +kernel
theorem dX11_init_207 : decode cX11_init 207 = .ok (.sipush 192, 3) := by decide +kernel
theorem dX11_init_210 : decode cX11_init 210 = .ok (.newarray .int, 2) := by decide +kernel
theorem dX11_init_212 : decode cX11_init 212 = .ok (.putfield 85, 3) := by decide +kernel
theorem dX11_init_215 : decode cX11_init 215 = .ok (.aload_n 0, 1) := by decide +kernel
theorem dX11_init_216 : decode cX11_init 216 = .ok (.sipush 192, 3) := by decide +kernel
theorem dX11_init_219 : decode cX11_init 219 = .ok (.newarray .int, 2) := by decide +kernel
theorem dX11_init_221 : decode cX11_init 221 = .ok (.putfield 88, 3) := by decide +kernel
theorem dX11_init_224 : decode cX11_init 224 = .ok (.aload_n 0, 1) := by decide +kernel
theorem dX11_init_225 : decode cX11_init 225 = .ok (.bipush 24, 2) := by decide +kernel
theorem dX11_init_227 : decode cX11_init 227 = .ok (.newarray .int, 2) := by decide +kernel
theorem dX11_init_229 : decode cX11_init 229 = .ok (.putfield 91, 3) := by decide +kernel
theorem dX11_init_232 : decode cX11_init 232 = .ok (.aload_n 0, 1) := by decide +kernel
theorem dX11_init_233 : decode cX11_init 233 = .ok (.bipush 24, 2) := by decide +kernel
theorem dX11_init_235 : decode cX11_init 235 = .ok (.newarray .int, 2) := by decide +kernel
theorem dX11_init_237 : decode cX11_init 237 = .ok (.putfield 94, 3) := by decide +kernel
theorem dX11_init_240 : decode cX11_init 240 = .ok (.aload_n 0, 1) := by decide +kernel
theorem dX11_init_241 : decode cX11_init 241 = .ok (.bipush 24, 2) := by decide +kernel
theorem dX11_init_243 : decode cX11_init 243 = .ok (.newarray .int, 2) := by decide +kernel
theorem dX11_init_245 : decode cX11_init 245 = .ok (.putfield 97, 3) := by decide +kernel
theorem dX11_init_248 : decode cX11_init 248 = .ok (.aload_n 0, 1) := by decide +kernel
theorem dX11_init_249 : decode cX11_init 249 = .ok (.iconst 2, 1) := by decide +kernel
theorem dX11_init_250 : decode cX11_init 250 = .ok (.newarray .int, 2) := by decide +kernel
theorem dX11_init_252 : decode cX11_init 252 = .ok (.putfield 100, 3) := by decide +kernel
theorem dX11_init_255 : decode cX11_init 255 = .ok (.aload_n 0, 1) := by decide +kernel
theorem dX11_init_256 : decode cX11_init 256 = .ok (.bipush 8, 2) := by decide +kernel
theorem dX11_init_258 : decode cX11_init 258 = .ok (.newarray .int, 2) := by decide +kernel
theorem dX11_init_260 : decode cX11_init 260 = .ok (.putfield 103, 3) := by decide +kernel
theorem dX11_init_263 : decode cX11_init 263 = .ok (.aload_n 0, 1) := by decide +kernel
theorem dX11_init_264 : decode cX11_init 264 = .ok (.bipush 8, 2) := by decide +kernel
theorem dX11_init_266 : decode cX11_init 266 = .ok (.newarray .int, 2) := by decide +kernel
theorem dX11_init_268 : decode cX11_init 268 = .ok (.putfield 106, 3) := by decide +kernel
theorem dX11_init_271 : decode cX11_init 271 = .ok (.aload_n 0, 1) := by decide +kernel
theorem dX11_init_272 : decode cX11_init 272 = .ok (.bipush 8, 2) := by decide +kernel
theorem dX11_init_274 : decode cX11_init 274 = .ok (.newarray .int, 2) := by decide +kernel
theorem dX11_init_276 : decode cX11_init 276 = .ok (.putfield 109, 3) := by decide +kernel
theorem dX11_init_279 : decode cX11_init 279 = .ok (.aload_n 0, 1) := by decide +kernel
theorem dX11_init_280 : decode cX11_init 280 = .ok (.bipush 8, 2) := by decide +kernel
theorem dX11_init_282 : decode cX11_init 282 = .ok (.newarray .int, 2) := by decide +kernel
theorem dX11_init_284 : decode cX11_init 284 = .ok (.putfield 112, 3) := by decide +kernel
theorem dX11_init_287 : decode cX11_init 287 = .ok (.aload_n 0, 1) := by decide +kernel
theorem dX11_init_288 : decode cX11_init 288 = .ok (.sipush 240, 3) := by decide +kernel
theorem dX11_init_291 : decode cX11_init 291 = .ok (.newarray .int, 2) := by decide +kernel
theorem dX11_init_293 : decode cX11_init 293 = .ok (.putfield 115, 3) := by decide +kernel
theorem dX11_init_296 : decode cX11_init 296 = .ok (.aload_n 0, 1) := by decide +kernel
theorem dX11_init_297 : decode cX11_init 297 = .ok (.iconst 4, 1) := by decide +kernel
theorem dX11_init_298 : decode cX11_init 298 = .ok (.newarray .boolean, 2) := by decide +kernel
theorem dX11_init_300 : decode cX11_init 300 = .ok (.putfield 118, 3) := by decide +kernel
theorem dX11_init_303 : decode cX11_init 303 = .ok (.aload_n 0, 1) := by decide +kernel
theorem dX11_init_304 : decode cX11_init 304 = .ok (.iconst 4, 1) := by decide +kernel
theorem dX11_init_305 : decode cX11_init 305 = .ok (.newarray .int, 2) := by decide +kernel
theorem dX11_init_307 : decode cX11_init 307 = .ok (.putfield 122, 3) := by decide +kernel
theorem dX11_init_310 : decode cX11_init 310 = .ok (.aload_n 0, 1) := by decide +kernel
theorem dX11_init_311 : decode cX11_init 311 = .ok (.iconst 4, 1) := by decide +kernel
theorem dX11_init_312 : decode cX11_init 312 = .ok (.newarray .int, 2) := by decide +kernel
theorem dX11_init_314 : decode cX11_init 314 = .ok (.putfield 125, 3) := by decide +kernel
theorem dX11_init_317 : decode cX11_init 317 = .ok (.aload_n 0, 1) := by decide +kernel
theorem dX11_init_318 : decode cX11_init 318 = .ok (.sipush 240, 3) := by decide +kernel
theorem dX11_init_321 : decode cX11_init 321 = .ok (.newarray .int, 2) := by decide +kernel
theorem dX11_init_323 : decode cX11_init 323 = .ok (.putfield 128, 3) := by decide +kernel
theorem dX11_init_326 : decode cX11_init 326 = .ok (.aload_n 0, 1) := by decide +kernel
theorem dX11_init_327 : decode cX11_init 327 = .ok (.bipush 60, 2) := by decide +kernel
theorem dX11_init_329 : decode cX11_init 329 = .ok (.newarray .int, 2) := by decide +kernel
theorem dX11_init_331 : decode cX11_init 331 = .ok (.putfield 131, 3) := by decide +kernel
theorem dX11_init_334 : decode cX11_init 334 = .ok (.return_, 1) := by decide +kernel
theorem clA46 : ∀ j, ([3, 2, 1, 0] : List Nat).contains j = false → σi 46 j = 0 := by
  intro j hj
  have h : ¬ j < 4 := by
    intro h
    rcases (show j = 0 ∨ j = 1 ∨ j = 2 ∨ j = 3 by omega) with rfl | rfl | rfl | rfl <;> exact absurd hj (by decide)
  show (if j < 4 then (-1 : Int32) else 0) = 0
  rw [if_neg h]
section KC
variable {g : nG} {l : Launch} {d : Nat}
theorem kc_X7_init_1 (hd : 2 ≤ d) : kMet g l d kX7_init [.ref 1] 2 [(1, []), (0, [])] 1 47 3 [(0, [])] := by
  refine kMet.of (ls0 := [(0, .ref 1)]) (ls1 := [(0, .ref 1)]) (pc1 := 12) (by decide) (by decide) rfl rfl dX7_init_12 ?_
  refine k_aload_n dX7_init_0 0 rfl ?_
  refine k_objInit dX7_init_1 oi_X7 oi_inst oi_code (by omega) (by decide) ?_
  refine k_aload_n dX7_init_4 0 rfl ?_
  refine k_bipush (v := 47) dX7_init_5 (by decide) ?_
  refine k_newI (N := 47) (c0 := 0) (s0 := 0) dX7_init_7 al_int (by decide) (by decide) rfl (by decide) (by decide) (by decide +kernel) rfl rfl rfl ?_
  refine k_putf 0 dX7_init_9 (Or.inl ⟨ff_X7_9_7, rfl⟩) rfl (by decide) (by decide) (by decide) (fun _ => rfl) (fun _ => rfl) (fun _ => rfl) ?_
  refine k_close rfl (by decide) (by decide) rfl (by decide +kernel) ?_
  exact k_stop
theorem kc_X7_init_3 (hd : 2 ≤ d) : kMet g l d kX7_init [.ref 3] 4 [(3, []), (0, [0])] 1 47 5 [(0, [0])] := by
  refine kMet.of (ls0 := [(0, .ref 3)]) (ls1 := [(0, .ref 3)]) (pc1 := 12) (by decide) (by decide) rfl rfl dX7_init_12 ?_
  refine k_aload_n dX7_init_0 0 rfl ?_
  refine k_objInit dX7_init_1 oi_X7 oi_inst oi_code (by omega) (by decide) ?_
  refine k_aload_n dX7_init_4 0 rfl ?_
  refine k_bipush (v := 47) dX7_init_5 (by decide) ?_
  refine k_newI (N := 47) (c0 := 0) (s0 := 0) dX7_init_7 al_int (by decide) (by decide) rfl (by decide) (by decide) (by decide +kernel) rfl rfl rfl ?_
  refine k_putf 0 dX7_init_9 (Or.inl ⟨ff_X7_9_7, rfl⟩) rfl (by decide) (by decide) (by decide) (fun _ => rfl) (fun _ => rfl) (fun _ => rfl) ?_
  refine k_close rfl (by decide) (by decide) rfl (by decide +kernel) ?_
  exact k_stop
theorem kc_X8_init_5 (hd : 2 ≤ d) : kMet g l d kX8_init [.ref 5, .ref 6, .int 8, .int 5] 15 [(5, []), (0, [1, 0])] 0 0 15 [(5, [2, 1, 0, 4]), (0, [1, 0])] := by
  refine kMet.of (ls0 := [(0, .ref 5), (1, .ref 6), (2, .int 8), (3, .int 5)]) (ls1 := [(0, .ref 5), (1, .ref 6), (2, .int 8), (3, .int 5)]) (pc1 := 24) (by decide) (by decide) rfl rfl dX8_init_24 ?_
  refine k_aload_n dX8_init_0 0 rfl ?_
  refine k_objInit dX8_init_1 oi_X8 oi_inst oi_code (by omega) (by decide) ?_
  refine k_aload_n dX8_init_4 0 rfl ?_
  refine k_iconst (v := -1) dX8_init_5 (by decide) ?_
  refine k_putf 4 dX8_init_6 (Or.inr fw_X8_9_0) rfl (by decide) (by decide) (by decide) (fun _ => rfl) (fun _ => rfl) (fun _ => rfl) ?_
  refine k_aload_n dX8_init_9 0 rfl ?_
  refine k_aload_n dX8_init_10 1 rfl ?_
  refine k_putf 0 dX8_init_11 (Or.inl ⟨ff_X8_15_0, rfl⟩) rfl (by decide) (by decide) (by decide) (fun _ => rfl) (fun _ => rfl) (fun _ => rfl) ?_
  refine k_aload_n dX8_init_14 0 rfl ?_
  refine k_iload_n dX8_init_15 2 rfl ?_
  refine k_putf 1 dX8_init_16 (Or.inl ⟨ff_X8_19_0, rfl⟩) rfl (by decide) (by decide) (by decide) (fun _ => rfl) (fun _ => rfl) (fun _ => rfl) ?_
  refine k_aload_n dX8_init_19 0 rfl ?_
  refine k_iload_n dX8_init_20 3 rfl ?_
  refine k_putf 2 dX8_init_21 (Or.inl ⟨ff_X8_22_0, rfl⟩) rfl (by decide) (by decide) (by decide) (fun _ => rfl) (fun _ => rfl) (fun _ => rfl) ?_
  exact k_stop
theorem kc_X0_init_5 (hd : 3 ≤ d) : kMet g l d kX0_init [.ref 5] 6 [(5, []), (0, [1, 0])] 9 48 15 [(0, [1, 0])] := by
  refine kMet.of (ls0 := [(0, .ref 5)]) (ls1 := [(0, .ref 5)]) (pc1 := 14) (by decide) (by decide) rfl rfl dX0_init_14 ?_
  refine k_aload_n dX0_init_0 0 rfl ?_
  refine k_bipush (v := 8) dX0_init_1 (by decide) ?_
  refine k_iconst (v := 5) dX0_init_3 (by decide) ?_
  refine k_mna (N := 8) (K := 5) (c0 := 0) (s0 := 0) dX0_init_4 al_int ag_X0_5 (by decide) (by decide) (by decide) (by decide) rfl (by decide +kernel) (by decide) (by decide +kernel) (by decide +kernel) rfl rfl ?_
  refine k_bipush (v := 8) dX0_init_8 (by decide) ?_
  refine k_iconst (v := 5) dX0_init_10 (by decide) ?_
  refine k_callI (As := [.ref 6, .int 8, .int 5]) (mc := 0) (ms := 0) (c0 := 0) (s0 := 0) (d1 := d - 1) dX0_init_11 ci_X0_7 (by omega) rfl rfl (by decide) (by decide) rfl rfl (kc_X8_init_5 (by omega)) ?_
  refine k_close rfl (by decide) (by decide) rfl (by decide +kernel) ?_
  exact k_stop
theorem kc_X8_init_15 (hd : 2 ≤ d) : kMet g l d kX8_init [.ref 15, .ref 16, .int 12, .int 3] 30 [(15, []), (0, [2, 1, 0])] 0 0 30 [(15, [2, 1, 0, 4]), (0, [2, 1, 0])] := by
  refine kMet.of (ls0 := [(0, .ref 15), (1, .ref 16), (2, .int 12), (3, .int 3)]) (ls1 := [(0, .ref 15), (1, .ref 16), (2, .int 12), (3, .int 3)]) (pc1 := 24) (by decide) (by decide) rfl rfl dX8_init_24 ?_
  refine k_aload_n dX8_init_0 0 rfl ?_
  refine k_objInit dX8_init_1 oi_X8 oi_inst oi_code (by omega) (by decide) ?_
  refine k_aload_n dX8_init_4 0 rfl ?_
  refine k_iconst (v := -1) dX8_init_5 (by decide) ?_
  refine k_putf 4 dX8_init_6 (Or.inr fw_X8_9_6) rfl (by decide) (by decide) (by decide) (fun _ => rfl) (fun _ => rfl) (fun _ => rfl) ?_
  refine k_aload_n dX8_init_9 0 rfl ?_
  refine k_aload_n dX8_init_10 1 rfl ?_
  refine k_putf 0 dX8_init_11 (Or.inl ⟨ff_X8_15_6, rfl⟩) rfl (by decide) (by decide) (by decide) (fun _ => rfl) (fun _ => rfl) (fun _ => rfl) ?_
  refine k_aload_n dX8_init_14 0 rfl ?_
  refine k_iload_n dX8_init_15 2 rfl ?_
  refine k_putf 1 dX8_init_16 (Or.inl ⟨ff_X8_19_6, rfl⟩) rfl (by decide) (by decide) (by decide) (fun _ => rfl) (fun _ => rfl) (fun _ => rfl) ?_
  refine k_aload_n dX8_init_19 0 rfl ?_
  refine k_iload_n dX8_init_20 3 rfl ?_
  refine k_putf 2 dX8_init_21 (Or.inl ⟨ff_X8_22_6, rfl⟩) rfl (by decide) (by decide) (by decide) (fun _ => rfl) (fun _ => rfl) (fun _ => rfl) ?_
  exact k_stop
theorem kc_X6_init_15 (hd : 3 ≤ d) : kMet g l d kX6_init [.ref 15] 16 [(15, []), (0, [2, 1, 0])] 14 52 30 [(0, [2, 1, 0])] := by
  refine kMet.of (ls0 := [(0, .ref 15)]) (ls1 := [(0, .ref 15)]) (pc1 := 14) (by decide) (by decide) rfl rfl dX6_init_14 ?_
  refine k_aload_n dX6_init_0 0 rfl ?_
  refine k_bipush (v := 13) dX6_init_1 (by decide) ?_
  refine k_iconst (v := 3) dX6_init_3 (by decide) ?_
  refine k_mna (N := 13) (K := 3) (c0 := 0) (s0 := 0) dX6_init_4 al_int ag_X6_5 (by decide) (by decide) (by decide) (by decide) rfl (by decide +kernel) (by decide) (by decide +kernel) (by decide +kernel) rfl rfl ?_
  refine k_bipush (v := 12) dX6_init_8 (by decide) ?_
  refine k_iconst (v := 3) dX6_init_10 (by decide) ?_
  refine k_callI (As := [.ref 16, .int 12, .int 3]) (mc := 0) (ms := 0) (c0 := 0) (s0 := 0) (d1 := d - 1) dX6_init_11 ci_X6_7 (by omega) rfl rfl (by decide) (by decide) rfl rfl (kc_X8_init_15 (by omega)) ?_
  refine k_close rfl (by decide) (by decide) rfl (by decide +kernel) ?_
  exact k_stop
theorem kc_X1_init_30 (hd : 2 ≤ d) : kMet g l d kX1_init [.ref 30] 31 [(30, []), (0, [3, 2, 1, 0])] 3 24 34 [(0, [3, 2, 1, 0])] := by
  refine kMet.of (ls0 := [(0, .ref 30)]) (ls1 := [(0, .ref 30)]) (pc1 := 28) (by decide) (by decide) rfl rfl dX1_init_28 ?_
  refine k_aload_n dX1_init_0 0 rfl ?_
  refine k_objInit dX1_init_1 oi_X1 oi_inst oi_code (by omega) (by decide) ?_
  refine k_aload_n dX1_init_4 0 rfl ?_
  refine k_bipush (v := 8) dX1_init_5 (by decide) ?_
  refine k_newI (N := 8) (c0 := 2) (s0 := 16) dX1_init_7 al_int (by decide) (by decide) rfl (by decide) (by decide) (by decide +kernel) rfl rfl rfl ?_
  refine k_putf 0 dX1_init_9 (Or.inl ⟨ff_X1_9_1, rfl⟩) rfl (by decide) (by decide) (by decide) (fun _ => rfl) (fun _ => rfl) (fun _ => rfl) ?_
  refine k_aload_n dX1_init_12 0 rfl ?_
  refine k_bipush (v := 8) dX1_init_13 (by decide) ?_
  refine k_newI (N := 8) (c0 := 1) (s0 := 8) dX1_init_15 al_int (by decide) (by decide) rfl (by decide) (by decide) (by decide +kernel) rfl rfl rfl ?_
  refine k_putf 1 dX1_init_17 (Or.inl ⟨ff_X1_15_1, rfl⟩) rfl (by decide) (by decide) (by decide) (fun _ => rfl) (fun _ => rfl) (fun _ => rfl) ?_
  refine k_aload_n dX1_init_20 0 rfl ?_
  refine k_bipush (v := 8) dX1_init_21 (by decide) ?_
  refine k_newI (N := 8) (c0 := 0) (s0 := 0) dX1_init_23 al_int (by decide) (by decide) rfl (by decide) (by decide) (by decide +kernel) rfl rfl rfl ?_
  refine k_putf 2 dX1_init_25 (Or.inl ⟨ff_X1_18_1, rfl⟩) rfl (by decide) (by decide) (by decide) (fun _ => rfl) (fun _ => rfl) (fun _ => rfl) ?_
  refine k_close rfl (by decide) (by decide) rfl (by decide +kernel) ?_
  exact k_stop
theorem kc_X5_init_34 (hd : 2 ≤ d) : kMet g l d kX5_init [.ref 34] 35 [(34, []), (0, [4, 3, 2, 1, 0])] 4 32 39 [(0, [4, 3, 2, 1, 0])] := by
  refine kMet.of (ls0 := [(0, .ref 34)]) (ls1 := [(0, .ref 34)]) (pc1 := 36) (by decide) (by decide) rfl rfl dX5_init_36 ?_
  refine k_aload_n dX5_init_0 0 rfl ?_
  refine k_objInit dX5_init_1 oi_X5 oi_inst oi_code (by omega) (by decide) ?_
  refine k_aload_n dX5_init_4 0 rfl ?_
  refine k_bipush (v := 8) dX5_init_5 (by decide) ?_
  refine k_newI (N := 8) (c0 := 3) (s0 := 24) dX5_init_7 al_int (by decide) (by decide) rfl (by decide) (by decide) (by decide +kernel) rfl rfl rfl ?_
  refine k_putf 0 dX5_init_9 (Or.inl ⟨ff_X5_9_5, rfl⟩) rfl (by decide) (by decide) (by decide) (fun _ => rfl) (fun _ => rfl) (fun _ => rfl) ?_
  refine k_aload_n dX5_init_12 0 rfl ?_
  refine k_bipush (v := 8) dX5_init_13 (by decide) ?_
  refine k_newI (N := 8) (c0 := 2) (s0 := 16) dX5_init_15 al_int (by decide) (by decide) rfl (by decide) (by decide) (by decide +kernel) rfl rfl rfl ?_
  refine k_putf 1 dX5_init_17 (Or.inl ⟨ff_X5_15_5, rfl⟩) rfl (by decide) (by decide) (by decide) (fun _ => rfl) (fun _ => rfl) (fun _ => rfl) ?_
  refine k_aload_n dX5_init_20 0 rfl ?_
  refine k_bipush (v := 8) dX5_init_21 (by decide) ?_
  refine k_newI (N := 8) (c0 := 1) (s0 := 8) dX5_init_23 al_int (by decide) (by decide) rfl (by decide) (by decide) (by decide +kernel) rfl rfl rfl ?_
  refine k_putf 2 dX5_init_25 (Or.inl ⟨ff_X5_18_5, rfl⟩) rfl (by decide) (by decide) (by decide) (fun _ => rfl) (fun _ => rfl) (fun _ => rfl) ?_
  refine k_aload_n dX5_init_28 0 rfl ?_
  refine k_bipush (v := 8) dX5_init_29 (by decide) ?_
  refine k_newI (N := 8) (c0 := 0) (s0 := 0) dX5_init_31 al_int (by decide) (by decide) rfl (by decide) (by decide) (by decide +kernel) rfl rfl rfl ?_
  refine k_putf 3 dX5_init_33 (Or.inl ⟨ff_X5_21_5, rfl⟩) rfl (by decide) (by decide) (by decide) (fun _ => rfl) (fun _ => rfl) (fun _ => rfl) ?_
  refine k_close rfl (by decide) (by decide) rfl (by decide +kernel) ?_
  exact k_stop
theorem kc_X4_init_39 (hd : 2 ≤ d) : kMet g l d kX4_init [.ref 39] 40 [(39, []), (0, [5, 4, 3, 2, 1, 0])] 7 252 47 [(0, [5, 4, 3, 2, 1, 0])] := by
  refine kMet.of (ls0 := [(0, .ref 39)]) (ls1 := [(0, .ref 39)]) (pc1 := 45) (by decide) (by decide) rfl rfl dX4_init_45 ?_
  refine k_aload_n dX4_init_0 0 rfl ?_
  refine k_objInit dX4_init_1 oi_X4 oi_inst oi_code (by omega) (by decide) ?_
  refine k_aload_n dX4_init_4 0 rfl ?_
  refine k_iconst (v := 4) dX4_init_5 (by decide) ?_
  refine k_bipush (v := 60) dX4_init_6 (by decide) ?_
  refine k_mna (N := 4) (K := 60) (c0 := 2) (s0 := 8) dX4_init_8 al_int ag_X4_11 (by decide) (by decide) (by decide) (by decide) rfl (by decide +kernel) (by decide) (by decide +kernel) (by decide +kernel) rfl rfl ?_
  refine k_putf 0 dX4_init_12 (Or.inl ⟨ff_X4_13_4, rfl⟩) rfl (by decide) (by decide) (by decide) (fun _ => rfl) (fun _ => rfl) (fun _ => rfl) ?_
  refine k_aload_n dX4_init_15 0 rfl ?_
  refine k_iconst (v := 4) dX4_init_16 (by decide) ?_
  refine k_newI (N := 4) (c0 := 1) (s0 := 4) dX4_init_17 al_int (by decide) (by decide) rfl (by decide) (by decide) (by decide +kernel) rfl rfl rfl ?_
  refine k_putf 1 dX4_init_19 (Or.inl ⟨ff_X4_16_4, rfl⟩) rfl (by decide) (by decide) (by decide) (fun _ => rfl) (fun _ => rfl) (fun _ => rfl) ?_
  refine k_aload_n dX4_init_22 0 rfl ?_
  refine k_iconst (v := 4) dX4_init_23 (by decide) ?_
  refine k_newO (N := 4) (c0 := 0) (s0 := 0) dX4_init_24 al_int (by decide) (by decide) rfl (by decide) (by decide +kernel) rfl rfl ?_
  refine k_dup dX4_init_26 rfl ?_
  refine k_iconst (v := 0) dX4_init_27 (by decide) ?_
  refine k_iconst (v := -1) dX4_init_28 (by decide) ?_
  refine k_iast 0 dX4_init_29 rfl (by decide) (by decide) (by decide) (by decide) (by decide) ?_
  refine k_dup dX4_init_30 rfl ?_
  refine k_iconst (v := 1) dX4_init_31 (by decide) ?_
  refine k_iconst (v := -1) dX4_init_32 (by decide) ?_
  refine k_iast 1 dX4_init_33 rfl (by decide) (by decide) (by decide) (by decide) (by decide) ?_
  refine k_dup dX4_init_34 rfl ?_
  refine k_iconst (v := 2) dX4_init_35 (by decide) ?_
  refine k_iconst (v := -1) dX4_init_36 (by decide) ?_
  refine k_iast 2 dX4_init_37 rfl (by decide) (by decide) (by decide) (by decide) (by decide) ?_
  refine k_dup dX4_init_38 rfl ?_
  refine k_iconst (v := 3) dX4_init_39 (by decide) ?_
  refine k_iconst (v := -1) dX4_init_40 (by decide) ?_
  refine k_iast 3 dX4_init_41 rfl (by decide) (by decide) (by decide) (by decide) (by decide) ?_
  refine k_closeA rfl (by decide) rfl clA46 ?_
  refine k_putf 2 dX4_init_42 (Or.inl ⟨ff_X4_20_4, rfl⟩) rfl (by decide) (by decide) (by decide) (fun _ => rfl) (fun _ => rfl) (fun _ => rfl) ?_
  refine k_close rfl (by decide) (by decide) rfl (by decide +kernel) ?_
  exact k_stop
theorem kc_X3_init_47 (hd : 2 ≤ d) : kMet g l d kX3_init [.ref 47] 48 [(47, []), (0, [6, 5, 4, 3, 2, 1, 0])] 17 1296 65 [(0, [6, 5, 4, 3, 2, 1, 0])] := by
  refine kMet.of (ls0 := [(0, .ref 47)]) (ls1 := [(0, .ref 47)]) (pc1 := 63) (by decide) (by decide) rfl rfl dX3_init_63 ?_
  refine k_aload_n dX3_init_0 0 rfl ?_
  refine k_objInit dX3_init_1 oi_X3 oi_inst oi_code (by omega) (by decide) ?_
  refine k_aload_n dX3_init_4 0 rfl ?_
  refine k_bipush (v := 6) dX3_init_5 (by decide) ?_
  refine k_bipush (v := 8) dX3_init_7 (by decide) ?_
  refine k_mna (N := 6) (K := 8) (c0 := 10) (s0 := 1242) dX3_init_9 al_int ag_X3_11 (by decide) (by decide) (by decide) (by decide) rfl (by decide +kernel) (by decide) (by decide +kernel) (by decide +kernel) rfl rfl ?_
  refine k_putf 0 dX3_init_13 (Or.inl ⟨ff_X3_13_3, rfl⟩) rfl (by decide) (by decide) (by decide) (fun _ => rfl) (fun _ => rfl) (fun _ => rfl) ?_
  refine k_aload_n dX3_init_16 0 rfl ?_
  refine k_bipush (v := 6) dX3_init_17 (by decide) ?_
  refine k_sipush (v := 192) dX3_init_19 (by decide) ?_
  refine k_mna (N := 6) (K := 192) (c0 := 3) (s0 := 84) dX3_init_22 al_int ag_X3_11 (by decide) (by decide) (by decide) (by decide) rfl (by decide +kernel) (by decide) (by decide +kernel) (by decide +kernel) rfl rfl ?_
  refine k_putf 1 dX3_init_26 (Or.inl ⟨ff_X3_16_3, rfl⟩) rfl (by decide) (by decide) (by decide) (fun _ => rfl) (fun _ => rfl) (fun _ => rfl) ?_
  refine k_aload_n dX3_init_29 0 rfl ?_
  refine k_bipush (v := 36) dX3_init_30 (by decide) ?_
  refine k_newI (N := 36) (c0 := 2) (s0 := 48) dX3_init_32 al_int (by decide) (by decide) rfl (by decide) (by decide) (by decide +kernel) rfl rfl rfl ?_
  refine k_putf 2 dX3_init_34 (Or.inl ⟨ff_X3_19_3, rfl⟩) rfl (by decide) (by decide) (by decide) (fun _ => rfl) (fun _ => rfl) (fun _ => rfl) ?_
  refine k_aload_n dX3_init_37 0 rfl ?_
  refine k_bipush (v := 24) dX3_init_38 (by decide) ?_
  refine k_newI (N := 24) (c0 := 1) (s0 := 24) dX3_init_40 al_int (by decide) (by decide) rfl (by decide) (by decide) (by decide +kernel) rfl rfl rfl ?_
  refine k_putf 3 dX3_init_42 (Or.inl ⟨ff_X3_23_3, rfl⟩) rfl (by decide) (by decide) (by decide) (fun _ => rfl) (fun _ => rfl) (fun _ => rfl) ?_
  refine k_aload_n dX3_init_45 0 rfl ?_
  refine k_bipush (v := 24) dX3_init_46 (by decide) ?_
  refine k_newI (N := 24) (c0 := 0) (s0 := 0) dX3_init_48 al_int (by decide) (by decide) rfl (by decide) (by decide) (by decide +kernel) rfl rfl rfl ?_
  refine k_putf 4 dX3_init_50 (Or.inl ⟨ff_X3_26_3, rfl⟩) rfl (by decide) (by decide) (by decide) (fun _ => rfl) (fun _ => rfl) (fun _ => rfl) ?_
  refine k_aload_n dX3_init_53 0 rfl ?_
  refine k_iconst (v := -1) dX3_init_54 (by decide) ?_
  refine k_putf 7 dX3_init_55 (Or.inr fw_X3_29_3) rfl (by decide) (by decide) (by decide) (fun _ => rfl) (fun _ => rfl) (fun _ => rfl) ?_
  refine k_aload_n dX3_init_58 0 rfl ?_
  refine k_iconst (v := -1) dX3_init_59 (by decide) ?_
  refine k_putf 8 dX3_init_60 (Or.inr fw_X3_33_3) rfl (by decide) (by decide) (by decide) (fun _ => rfl) (fun _ => rfl) (fun _ => rfl) ?_
  refine k_close rfl (by decide) (by decide) rfl (by decide +kernel) ?_
  exact k_stop
theorem kc_X8_init_66 (hd : 2 ≤ d) : kMet g l d kX8_init [.ref 66, .ref 67, .int 8, .int 5] 76 [(66, []), (65, []), (0, [7, 6, 5, 4, 3, 2, 1, 0])] 0 0 76 [(66, [2, 1, 0, 4]), (65, []), (0, [7, 6, 5, 4, 3, 2, 1, 0])] := by
  refine kMet.of (ls0 := [(0, .ref 66), (1, .ref 67), (2, .int 8), (3, .int 5)]) (ls1 := [(0, .ref 66), (1, .ref 67), (2, .int 8), (3, .int 5)]) (pc1 := 24) (by decide) (by decide) rfl rfl dX8_init_24 ?_
  refine k_aload_n dX8_init_0 0 rfl ?_
  refine k_objInit dX8_init_1 oi_X8 oi_inst oi_code (by omega) (by decide) ?_
  refine k_aload_n dX8_init_4 0 rfl ?_
  refine k_iconst (v := -1) dX8_init_5 (by decide) ?_
  refine k_putf 4 dX8_init_6 (Or.inr fw_X8_9_0) rfl (by decide) (by decide) (by decide) (fun _ => rfl) (fun _ => rfl) (fun _ => rfl) ?_
  refine k_aload_n dX8_init_9 0 rfl ?_
  refine k_aload_n dX8_init_10 1 rfl ?_
  refine k_putf 0 dX8_init_11 (Or.inl ⟨ff_X8_15_0, rfl⟩) rfl (by decide) (by decide) (by decide) (fun _ => rfl) (fun _ => rfl) (fun _ => rfl) ?_
  refine k_aload_n dX8_init_14 0 rfl ?_
  refine k_iload_n dX8_init_15 2 rfl ?_
  refine k_putf 1 dX8_init_16 (Or.inl ⟨ff_X8_19_0, rfl⟩) rfl (by decide) (by decide) (by decide) (fun _ => rfl) (fun _ => rfl) (fun _ => rfl) ?_
  refine k_aload_n dX8_init_19 0 rfl ?_
  refine k_iload_n dX8_init_20 3 rfl ?_
  refine k_putf 2 dX8_init_21 (Or.inl ⟨ff_X8_22_0, rfl⟩) rfl (by decide) (by decide) (by decide) (fun _ => rfl) (fun _ => rfl) (fun _ => rfl) ?_
  exact k_stop
theorem kc_X0_init_66 (hd : 3 ≤ d) : kMet g l d kX0_init [.ref 66] 67 [(66, []), (65, []), (0, [7, 6, 5, 4, 3, 2, 1, 0])] 9 48 76 [(65, []), (0, [7, 6, 5, 4, 3, 2, 1, 0])] := by
  refine kMet.of (ls0 := [(0, .ref 66)]) (ls1 := [(0, .ref 66)]) (pc1 := 14) (by decide) (by decide) rfl rfl dX0_init_14 ?_
  refine k_aload_n dX0_init_0 0 rfl ?_
  refine k_bipush (v := 8) dX0_init_1 (by decide) ?_
  refine k_iconst (v := 5) dX0_init_3 (by decide) ?_
  refine k_mna (N := 8) (K := 5) (c0 := 0) (s0 := 0) dX0_init_4 al_int ag_X0_5 (by decide) (by decide) (by decide) (by decide) rfl (by decide +kernel) (by decide) (by decide +kernel) (by decide +kernel) rfl rfl ?_
  refine k_bipush (v := 8) dX0_init_8 (by decide) ?_
  refine k_iconst (v := 5) dX0_init_10 (by decide) ?_
  refine k_callI (As := [.ref 67, .int 8, .int 5]) (mc := 0) (ms := 0) (c0 := 0) (s0 := 0) (d1 := d - 1) dX0_init_11 ci_X0_7 (by omega) rfl rfl (by decide) (by decide) rfl rfl (kc_X8_init_66 (by omega)) ?_
  refine k_close rfl (by decide) (by decide) rfl (by decide +kernel) ?_
  exact k_stop
theorem kc_X1_init_76 (hd : 2 ≤ d) : kMet g l d kX1_init [.ref 76] 77 [(76, []), (65, [4]), (0, [7, 6, 5, 4, 3, 2, 1, 0])] 3 24 80 [(65, [4]), (0, [7, 6, 5, 4, 3, 2, 1, 0])] := by
  refine kMet.of (ls0 := [(0, .ref 76)]) (ls1 := [(0, .ref 76)]) (pc1 := 28) (by decide) (by decide) rfl rfl dX1_init_28 ?_
  refine k_aload_n dX1_init_0 0 rfl ?_
  refine k_objInit dX1_init_1 oi_X1 oi_inst oi_code (by omega) (by decide) ?_
  refine k_aload_n dX1_init_4 0 rfl ?_
  refine k_bipush (v := 8) dX1_init_5 (by decide) ?_
  refine k_newI (N := 8) (c0 := 2) (s0 := 16) dX1_init_7 al_int (by decide) (by decide) rfl (by decide) (by decide) (by decide +kernel) rfl rfl rfl ?_
  refine k_putf 0 dX1_init_9 (Or.inl ⟨ff_X1_9_1, rfl⟩) rfl (by decide) (by decide) (by decide) (fun _ => rfl) (fun _ => rfl) (fun _ => rfl) ?_
  refine k_aload_n dX1_init_12 0 rfl ?_
  refine k_bipush (v := 8) dX1_init_13 (by decide) ?_
  refine k_newI (N := 8) (c0 := 1) (s0 := 8) dX1_init_15 al_int (by decide) (by decide) rfl (by decide) (by decide) (by decide +kernel) rfl rfl rfl ?_
  refine k_putf 1 dX1_init_17 (Or.inl ⟨ff_X1_15_1, rfl⟩) rfl (by decide) (by decide) (by decide) (fun _ => rfl) (fun _ => rfl) (fun _ => rfl) ?_
  refine k_aload_n dX1_init_20 0 rfl ?_
  refine k_bipush (v := 8) dX1_init_21 (by decide) ?_
  refine k_newI (N := 8) (c0 := 0) (s0 := 0) dX1_init_23 al_int (by decide) (by decide) rfl (by decide) (by decide) (by decide +kernel) rfl rfl rfl ?_
  refine k_putf 2 dX1_init_25 (Or.inl ⟨ff_X1_18_1, rfl⟩) rfl (by decide) (by decide) (by decide) (fun _ => rfl) (fun _ => rfl) (fun _ => rfl) ?_
  refine k_close rfl (by decide) (by decide) rfl (by decide +kernel) ?_
  exact k_stop
theorem kc_X3_init_80 (hd : 2 ≤ d) : kMet g l d kX3_init [.ref 80] 81 [(80, []), (65, [5, 4]), (0, [7, 6, 5, 4, 3, 2, 1, 0])] 17 1296 98 [(65, [5, 4]), (0, [7, 6, 5, 4, 3, 2, 1, 0])] := by
  refine kMet.of (ls0 := [(0, .ref 80)]) (ls1 := [(0, .ref 80)]) (pc1 := 63) (by decide) (by decide) rfl rfl dX3_init_63 ?_
  refine k_aload_n dX3_init_0 0 rfl ?_
  refine k_objInit dX3_init_1 oi_X3 oi_inst oi_code (by omega) (by decide) ?_
  refine k_aload_n dX3_init_4 0 rfl ?_
  refine k_bipush (v := 6) dX3_init_5 (by decide) ?_
  refine k_bipush (v := 8) dX3_init_7 (by decide) ?_
  refine k_mna (N := 6) (K := 8) (c0 := 10) (s0 := 1242) dX3_init_9 al_int ag_X3_11 (by decide) (by decide) (by decide) (by decide) rfl (by decide +kernel) (by decide) (by decide +kernel) (by decide +kernel) rfl rfl ?_
  refine k_putf 0 dX3_init_13 (Or.inl ⟨ff_X3_13_3, rfl⟩) rfl (by decide) (by decide) (by decide) (fun _ => rfl) (fun _ => rfl) (fun _ => rfl) ?_
  refine k_aload_n dX3_init_16 0 rfl ?_
  refine k_bipush (v := 6) dX3_init_17 (by decide) ?_
  refine k_sipush (v := 192) dX3_init_19 (by decide) ?_
  refine k_mna (N := 6) (K := 192) (c0 := 3) (s0 := 84) dX3_init_22 al_int ag_X3_11 (by decide) (by decide) (by decide) (by decide) rfl (by decide +kernel) (by decide) (by decide +kernel) (by decide +kernel) rfl rfl ?_
  refine k_putf 1 dX3_init_26 (Or.inl ⟨ff_X3_16_3, rfl⟩) rfl (by decide) (by decide) (by decide) (fun _ => rfl) (fun _ => rfl) (fun _ => rfl) ?_
  refine k_aload_n dX3_init_29 0 rfl ?_
  refine k_bipush (v := 36) dX3_init_30 (by decide) ?_
  refine k_newI (N := 36) (c0 := 2) (s0 := 48) dX3_init_32 al_int (by decide) (by decide) rfl (by decide) (by decide) (by decide +kernel) rfl rfl rfl ?_
  refine k_putf 2 dX3_init_34 (Or.inl ⟨ff_X3_19_3, rfl⟩) rfl (by decide) (by decide) (by decide) (fun _ => rfl) (fun _ => rfl) (fun _ => rfl) ?_
  refine k_aload_n dX3_init_37 0 rfl ?_
  refine k_bipush (v := 24) dX3_init_38 (by decide) ?_
  refine k_newI (N := 24) (c0 := 1) (s0 := 24) dX3_init_40 al_int (by decide) (by decide) rfl (by decide) (by decide) (by decide +kernel) rfl rfl rfl ?_
  refine k_putf 3 dX3_init_42 (Or.inl ⟨ff_X3_23_3, rfl⟩) rfl (by decide) (by decide) (by decide) (fun _ => rfl) (fun _ => rfl) (fun _ => rfl) ?_
  refine k_aload_n dX3_init_45 0 rfl ?_
  refine k_bipush (v := 24) dX3_init_46 (by decide) ?_
  refine k_newI (N := 24) (c0 := 0) (s0 := 0) dX3_init_48 al_int (by decide) (by decide) rfl (by decide) (by decide) (by decide +kernel) rfl rfl rfl ?_
  refine k_putf 4 dX3_init_50 (Or.inl ⟨ff_X3_26_3, rfl⟩) rfl (by decide) (by decide) (by decide) (fun _ => rfl) (fun _ => rfl) (fun _ => rfl) ?_
  refine k_aload_n dX3_init_53 0 rfl ?_
  refine k_iconst (v := -1) dX3_init_54 (by decide) ?_
  refine k_putf 7 dX3_init_55 (Or.inr fw_X3_29_3) rfl (by decide) (by decide) (by decide) (fun _ => rfl) (fun _ => rfl) (fun _ => rfl) ?_
  refine k_aload_n dX3_init_58 0 rfl ?_
  refine k_iconst (v := -1) dX3_init_59 (by decide) ?_
  refine k_putf 8 dX3_init_60 (Or.inr fw_X3_33_3) rfl (by decide) (by decide) (by decide) (fun _ => rfl) (fun _ => rfl) (fun _ => rfl) ?_
  refine k_close rfl (by decide) (by decide) rfl (by decide +kernel) ?_
  exact k_stop
theorem kc_X9_init_65 (hd : 4 ≤ d) : kMet g l d kX9_init [.ref 65, .ref 5, .ref 15, .ref 30, .ref 34] 66 [(65, []), (0, [7, 6, 5, 4, 3, 2, 1, 0])] 44 1893 110 [(0, [7, 6, 5, 4, 3, 2, 1, 0])] := by
  refine kMet.of (ls0 := [(0, .ref 65), (1, .ref 5), (2, .ref 15), (3, .ref 30), (4, .ref 34)]) (ls1 := [(0, .ref 65), (1, .ref 5), (2, .ref 15), (3, .ref 30), (4, .ref 34)]) (pc1 := 79) (by decide) (by decide) rfl rfl dX9_init_79 ?_
  refine k_aload_n dX9_init_0 0 rfl ?_
  refine k_objInit dX9_init_1 oi_X9 oi_inst oi_code (by omega) (by decide) ?_
  refine k_aload_n dX9_init_4 0 rfl ?_
  refine k_new (ci := 0) (N := 5) (c0 := 43) (s0 := 1888) dX9_init_5 nn_X9_9 rfl (by decide) (by decide) (by decide +kernel) rfl rfl ?_
  refine k_dup dX9_init_8 rfl ?_
  refine k_callI (As := []) (mc := 9) (ms := 48) (c0 := 34) (s0 := 1840) (d1 := d - 1) dX9_init_9 ci_X9_11 (by omega) rfl rfl (by decide) (by decide) rfl rfl (kc_X0_init_66 (by omega)) ?_
  refine k_putf 4 dX9_init_12 (Or.inl ⟨ff_X9_12_8, rfl⟩) rfl (by decide) (by decide) (by decide) (fun _ => rfl) (fun _ => rfl) (fun _ => rfl) ?_
  refine k_aload_n dX9_init_15 0 rfl ?_
  refine k_new (ci := 1) (N := 4) (c0 := 33) (s0 := 1836) dX9_init_16 nn_X9_18 rfl (by decide) (by decide) (by decide +kernel) rfl rfl ?_
  refine k_dup dX9_init_19 rfl ?_
  refine k_callI (As := []) (mc := 3) (ms := 24) (c0 := 30) (s0 := 1812) (d1 := d - 1) dX9_init_20 ci_X9_20 (by omega) rfl rfl (by decide) (by decide) rfl rfl (kc_X1_init_76 (by omega)) ?_
  refine k_putf 5 dX9_init_23 (Or.inl ⟨ff_X9_21_8, rfl⟩) rfl (by decide) (by decide) (by decide) (fun _ => rfl) (fun _ => rfl) (fun _ => rfl) ?_
  refine k_aload_n dX9_init_26 0 rfl ?_
  refine k_new (ci := 3) (N := 10) (c0 := 29) (s0 := 1802) dX9_init_27 nn_X9_25 rfl (by decide) (by decide) (by decide +kernel) rfl rfl ?_
  refine k_dup dX9_init_30 rfl ?_
  refine k_callI (As := []) (mc := 17) (ms := 1296) (c0 := 12) (s0 := 506) (d1 := d - 1) dX9_init_31 ci_X9_27 (by omega) rfl rfl (by decide) (by decide) rfl rfl (kc_X3_init_80 (by omega)) ?_
  refine k_putf 6 dX9_init_34 (Or.inl ⟨ff_X9_28_8, rfl⟩) rfl (by decide) (by decide) (by decide) (fun _ => rfl) (fun _ => rfl) (fun _ => rfl) ?_
  refine k_aload_n dX9_init_37 0 rfl ?_
  refine k_bipush (v := 10) dX9_init_38 (by decide) ?_
  refine k_bipush (v := 24) dX9_init_40 (by decide) ?_
  refine k_mna (N := 10) (K := 24) (c0 := 1) (s0 := 256) dX9_init_42 al_int ag_X9_32 (by decide) (by decide) (by decide) (by decide) rfl (by decide +kernel) (by decide) (by decide +kernel) (by decide +kernel) rfl rfl ?_
  refine k_putf 7 dX9_init_46 (Or.inl ⟨ff_X9_34_8, rfl⟩) rfl (by decide) (by decide) (by decide) (fun _ => rfl) (fun _ => rfl) (fun _ => rfl) ?_
  refine k_aload_n dX9_init_49 0 rfl ?_
  refine k_sipush (v := 256) dX9_init_50 (by decide) ?_
  refine k_newI (N := 256) (c0 := 0) (s0 := 0) dX9_init_53 al_int (by decide) (by decide) rfl (by decide) (by decide) (by decide +kernel) rfl rfl rfl ?_
  refine k_putf 8 dX9_init_55 (Or.inl ⟨ff_X9_37_8, rfl⟩) rfl (by decide) (by decide) (by decide) (fun _ => rfl) (fun _ => rfl) (fun _ => rfl) ?_
  refine k_aload_n dX9_init_58 0 rfl ?_
  refine k_aload_n dX9_init_59 1 rfl ?_
  refine k_putf 0 dX9_init_60 (Or.inl ⟨ff_X9_41_8, rfl⟩) rfl (by decide) (by decide) (by decide) (fun _ => rfl) (fun _ => rfl) (fun _ => rfl) ?_
  refine k_aload_n dX9_init_63 0 rfl ?_
  refine k_aload_n dX9_init_64 2 rfl ?_
  refine k_putf 1 dX9_init_65 (Or.inl ⟨ff_X9_44_8, rfl⟩) rfl (by decide) (by decide) (by decide) (fun _ => rfl) (fun _ => rfl) (fun _ => rfl) ?_
  refine k_aload_n dX9_init_68 0 rfl ?_
  refine k_aload_n dX9_init_69 3 rfl ?_
  refine k_putf 2 dX9_init_70 (Or.inl ⟨ff_X9_48_8, rfl⟩) rfl (by decide) (by decide) (by decide) (fun _ => rfl) (fun _ => rfl) (fun _ => rfl) ?_
  refine k_aload_n dX9_init_73 0 rfl ?_
  refine k_aload dX9_init_74 4 rfl ?_
  refine k_putf 3 dX9_init_76 (Or.inl ⟨ff_X9_51_8, rfl⟩) rfl (by decide) (by decide) (by decide) (fun _ => rfl) (fun _ => rfl) (fun _ => rfl) ?_
  refine k_close rfl (by decide) (by decide) rfl (by decide +kernel) ?_
  exact k_stop
theorem kc_X2_init_110 (hd : 2 ≤ d) : kMet g l d kX2_init [.ref 110] 111 [(110, []), (0, [8, 7, 6, 5, 4, 3, 2, 1, 0])] 0 0 111 [(0, [8, 7, 6, 5, 4, 3, 2, 1, 0])] := by
  refine kMet.of (ls0 := [(0, .ref 110)]) (ls1 := [(0, .ref 110)]) (pc1 := 4) (by decide) (by decide) rfl rfl dX2_init_4 ?_
  refine k_aload_n dX2_init_0 0 rfl ?_
  refine k_objInit dX2_init_1 oi_X2 oi_inst oi_code (by omega) (by decide) ?_
  refine k_close rfl (by decide) (by decide) rfl (by decide +kernel) ?_
  exact k_stop
theorem kc_X10_init_0 (hd : 5 ≤ d) : kMet g l d kX10_init [.ref 0] 1 [(0, [])] 110 3739 111 [] := by
  refine kMet.of (ls0 := [(0, .ref 0)]) (ls1 := [(0, .ref 0)]) (pc1 := 135) (by decide) (by decide) rfl rfl dX10_init_135 ?_
  refine k_aload_n dX10_init_0 0 rfl ?_
  refine k_objInit dX10_init_1 oi_X10 oi_inst oi_code (by omega) (by decide) ?_
  refine k_aload_n dX10_init_4 0 rfl ?_
  refine k_new (ci := 7) (N := 2) (c0 := 109) (s0 := 3737) dX10_init_5 nn_X10_9 rfl (by decide) (by decide) (by decide +kernel) rfl rfl ?_
  refine k_dup dX10_init_8 rfl ?_
  refine k_callI (As := []) (mc := 1) (ms := 47) (c0 := 108) (s0 := 3690) (d1 := d - 1) dX10_init_9 ci_X10_11 (by omega) rfl rfl (by decide) (by decide) rfl rfl (kc_X7_init_1 (by omega)) ?_
  refine k_putf 0 dX10_init_12 (Or.inl ⟨ff_X10_12_9, rfl⟩) rfl (by decide) (by decide) (by decide) (fun _ => rfl) (fun _ => rfl) (fun _ => rfl) ?_
  refine k_aload_n dX10_init_15 0 rfl ?_
  refine k_new (ci := 7) (N := 2) (c0 := 107) (s0 := 3688) dX10_init_16 nn_X10_9 rfl (by decide) (by decide) (by decide +kernel) rfl rfl ?_
  refine k_dup dX10_init_19 rfl ?_
  refine k_callI (As := []) (mc := 1) (ms := 47) (c0 := 106) (s0 := 3641) (d1 := d - 1) dX10_init_20 ci_X10_11 (by omega) rfl rfl (by decide) (by decide) rfl rfl (kc_X7_init_3 (by omega)) ?_
  refine k_putf 1 dX10_init_23 (Or.inl ⟨ff_X10_16_9, rfl⟩) rfl (by decide) (by decide) (by decide) (fun _ => rfl) (fun _ => rfl) (fun _ => rfl) ?_
  refine k_aload_n dX10_init_26 0 rfl ?_
  refine k_new (ci := 0) (N := 5) (c0 := 105) (s0 := 3636) dX10_init_27 nn_X10_19 rfl (by decide) (by decide) (by decide +kernel) rfl rfl ?_
  refine k_dup dX10_init_30 rfl ?_
  refine k_callI (As := []) (mc := 9) (ms := 48) (c0 := 96) (s0 := 3588) (d1 := d - 1) dX10_init_31 ci_X10_21 (by omega) rfl rfl (by decide) (by decide) rfl rfl (kc_X0_init_5 (by omega)) ?_
  refine k_putf 2 dX10_init_34 (Or.inl ⟨ff_X10_22_9, rfl⟩) rfl (by decide) (by decide) (by decide) (fun _ => rfl) (fun _ => rfl) (fun _ => rfl) ?_
  refine k_aload_n dX10_init_37 0 rfl ?_
  refine k_new (ci := 6) (N := 5) (c0 := 95) (s0 := 3583) dX10_init_38 nn_X10_26 rfl (by decide) (by decide) (by decide +kernel) rfl rfl ?_
  refine k_dup dX10_init_41 rfl ?_
  refine k_callI (As := []) (mc := 14) (ms := 52) (c0 := 81) (s0 := 3531) (d1 := d - 1) dX10_init_42 ci_X10_28 (by omega) rfl rfl (by decide) (by decide) rfl rfl (kc_X6_init_15 (by omega)) ?_
  refine k_putf 3 dX10_init_45 (Or.inl ⟨ff_X10_29_9, rfl⟩) rfl (by decide) (by decide) (by decide) (fun _ => rfl) (fun _ => rfl) (fun _ => rfl) ?_
  refine k_aload_n dX10_init_48 0 rfl ?_
  refine k_new (ci := 1) (N := 4) (c0 := 80) (s0 := 3527) dX10_init_49 nn_X10_33 rfl (by decide) (by decide) (by decide +kernel) rfl rfl ?_
  refine k_dup dX10_init_52 rfl ?_
  refine k_callI (As := []) (mc := 3) (ms := 24) (c0 := 77) (s0 := 3503) (d1 := d - 1) dX10_init_53 ci_X10_35 (by omega) rfl rfl (by decide) (by decide) rfl rfl (kc_X1_init_30 (by omega)) ?_
  refine k_putf 4 dX10_init_56 (Or.inl ⟨ff_X10_36_9, rfl⟩) rfl (by decide) (by decide) (by decide) (fun _ => rfl) (fun _ => rfl) (fun _ => rfl) ?_
  refine k_aload_n dX10_init_59 0 rfl ?_
  refine k_new (ci := 5) (N := 5) (c0 := 76) (s0 := 3498) dX10_init_60 nn_X10_40 rfl (by decide) (by decide) (by decide +kernel) rfl rfl ?_
  refine k_dup dX10_init_63 rfl ?_
  refine k_callI (As := []) (mc := 4) (ms := 32) (c0 := 72) (s0 := 3466) (d1 := d - 1) dX10_init_64 ci_X10_42 (by omega) rfl rfl (by decide) (by decide) rfl rfl (kc_X5_init_34 (by omega)) ?_
  refine k_putf 5 dX10_init_67 (Or.inl ⟨ff_X10_43_9, rfl⟩) rfl (by decide) (by decide) (by decide) (fun _ => rfl) (fun _ => rfl) (fun _ => rfl) ?_
  refine k_aload_n dX10_init_70 0 rfl ?_
  refine k_new (ci := 4) (N := 4) (c0 := 71) (s0 := 3462) dX10_init_71 nn_X10_47 rfl (by decide) (by decide) (by decide +kernel) rfl rfl ?_
  refine k_dup dX10_init_74 rfl ?_
  refine k_callI (As := []) (mc := 7) (ms := 252) (c0 := 64) (s0 := 3210) (d1 := d - 1) dX10_init_75 ci_X10_49 (by omega) rfl rfl (by decide) (by decide) rfl rfl (kc_X4_init_39 (by omega)) ?_
  refine k_putf 6 dX10_init_78 (Or.inl ⟨ff_X10_50_9, rfl⟩) rfl (by decide) (by decide) (by decide) (fun _ => rfl) (fun _ => rfl) (fun _ => rfl) ?_
  refine k_aload_n dX10_init_81 0 rfl ?_
  refine k_new (ci := 3) (N := 10) (c0 := 63) (s0 := 3200) dX10_init_82 nn_X10_54 rfl (by decide) (by decide) (by decide +kernel) rfl rfl ?_
  refine k_dup dX10_init_85 rfl ?_
  refine k_callI (As := []) (mc := 17) (ms := 1296) (c0 := 46) (s0 := 1904) (d1 := d - 1) dX10_init_86 ci_X10_56 (by omega) rfl rfl (by decide) (by decide) rfl rfl (kc_X3_init_47 (by omega)) ?_
  refine k_putf 7 dX10_init_89 (Or.inl ⟨ff_X10_57_9, rfl⟩) rfl (by decide) (by decide) (by decide) (fun _ => rfl) (fun _ => rfl) (fun _ => rfl) ?_
  refine k_aload_n dX10_init_92 0 rfl ?_
  refine k_new (ci := 8) (N := 10) (c0 := 45) (s0 := 1894) dX10_init_93 nn_X10_61 rfl (by decide) (by decide) (by decide +kernel) rfl rfl ?_
  refine k_dup dX10_init_96 rfl ?_
  refine k_aload_n dX10_init_97 0 rfl ?_
  refine k_getf (v := .ref 5) 2 dX10_init_98 fl_X10_22_9 rfl (by decide) (by decide) (by decide) (by decide) (fun _ => rfl) rfl ?_
  refine k_aload_n dX10_init_101 0 rfl ?_
  refine k_getf (v := .ref 15) 3 dX10_init_102 fl_X10_29_9 rfl (by decide) (by decide) (by decide) (by decide) (fun _ => rfl) rfl ?_
  refine k_aload_n dX10_init_105 0 rfl ?_
  refine k_getf (v := .ref 30) 4 dX10_init_106 fl_X10_36_9 rfl (by decide) (by decide) (by decide) (by decide) (fun _ => rfl) rfl ?_
  refine k_aload_n dX10_init_109 0 rfl ?_
  refine k_getf (v := .ref 34) 5 dX10_init_110 fl_X10_43_9 rfl (by decide) (by decide) (by decide) (by decide) (fun _ => rfl) rfl ?_
  refine k_callI (As := [.ref 5, .ref 15, .ref 30, .ref 34]) (mc := 44) (ms := 1893) (c0 := 1) (s0 := 1) (d1 := d - 1) dX10_init_113 ci_X10_63 (by omega) rfl rfl (by decide) (by decide) rfl rfl (kc_X9_init_65 (by omega)) ?_
  refine k_putf 8 dX10_init_116 (Or.inl ⟨ff_X10_66_9, rfl⟩) rfl (by decide) (by decide) (by decide) (fun _ => rfl) (fun _ => rfl) (fun _ => rfl) ?_
  refine k_aload_n dX10_init_119 0 rfl ?_
  refine k_new (ci := 2) (N := 1) (c0 := 0) (s0 := 0) dX10_init_120 nn_X10_70 rfl (by decide) (by decide) (by decide +kernel) rfl rfl ?_
  refine k_dup dX10_init_123 rfl ?_
  refine k_callI (As := []) (mc := 0) (ms := 0) (c0 := 0) (s0 := 0) (d1 := d - 1) dX10_init_124 ci_X10_72 (by omega) rfl rfl (by decide) (by decide) rfl rfl (kc_X2_init_110 (by omega)) ?_
  refine k_putf 9 dX10_init_127 (Or.inl ⟨ff_X10_73_9, rfl⟩) rfl (by decide) (by decide) (by decide) (fun _ => rfl) (fun _ => rfl) (fun _ => rfl) ?_
  refine k_aload_n dX10_init_130 0 rfl ?_
  refine k_iconst (v := 1) dX10_init_131 (by decide) ?_
  refine k_putf 10 dX10_init_132 (Or.inr fw_X10_77_9) rfl (by decide) (by decide) (by decide) (fun _ => rfl) (fun _ => rfl) (fun _ => rfl) ?_
  refine k_close rfl (by decide) (by decide) rfl (by decide +kernel) ?_
  exact k_stop
theorem kc_X11_init_111 (hd : 2 ≤ d) : kMet g l d kX11_init [.ref 111] 112 [(111, [])] 41 1900 153 [] := by
  refine kMet.of (ls0 := [(0, .ref 111)]) (ls1 := [(0, .ref 111)]) (pc1 := 334) (by decide) (by decide) rfl rfl dX11_init_334 ?_
  refine k_aload_n dX11_init_0 0 rfl ?_
  refine k_objInit dX11_init_1 oi_X11 oi_inst oi_code (by omega) (by decide) ?_
  refine k_aload_n dX11_init_4 0 rfl ?_
  refine k_iconst (v := 2) dX11_init_5 (by decide) ?_
  refine k_newI (N := 2) (c0 := 40) (s0 := 1898) dX11_init_6 al_int (by decide) (by decide) rfl (by decide) (by decide) (by decide +kernel) rfl rfl rfl ?_
  refine k_putf 0 dX11_init_8 (Or.inl ⟨ff_X11_7_10, rfl⟩) rfl (by decide) (by decide) (by decide) (fun _ => rfl) (fun _ => rfl) (fun _ => rfl) ?_
  refine k_aload_n dX11_init_11 0 rfl ?_
  refine k_bipush (v := 94) dX11_init_12 (by decide) ?_
  refine k_newI (N := 94) (c0 := 39) (s0 := 1804) dX11_init_14 al_int (by decide) (by decide) rfl (by decide) (by decide) (by decide +kernel) rfl rfl rfl ?_
  refine k_putf 1 dX11_init_16 (Or.inl ⟨ff_X11_13_10, rfl⟩) rfl (by decide) (by decide) (by decide) (fun _ => rfl) (fun _ => rfl) (fun _ => rfl) ?_
  refine k_aload_n dX11_init_19 0 rfl ?_
  refine k_bipush (v := 9) dX11_init_20 (by decide) ?_
  refine k_newI (N := 9) (c0 := 38) (s0 := 1795) dX11_init_22 al_int (by decide) (by decide) rfl (by decide) (by decide) (by decide +kernel) rfl rfl rfl ?_
  refine k_putf 3 dX11_init_24 (Or.inl ⟨ff_X11_16_10, rfl⟩) rfl (by decide) (by decide) (by decide) (fun _ => rfl) (fun _ => rfl) (fun _ => rfl) ?_
  refine k_aload_n dX11_init_27 0 rfl ?_
  refine k_bipush (v := 9) dX11_init_28 (by decide) ?_
  refine k_newI (N := 9) (c0 := 37) (s0 := 1786) dX11_init_30 al_int (by decide) (by decide) rfl (by decide) (by decide) (by decide +kernel) rfl rfl rfl ?_
  refine k_putf 4 dX11_init_32 (Or.inl ⟨ff_X11_19_10, rfl⟩) rfl (by decide) (by decide) (by decide) (fun _ => rfl) (fun _ => rfl) (fun _ => rfl) ?_
  refine k_aload_n dX11_init_35 0 rfl ?_
  refine k_bipush (v := 9) dX11_init_36 (by decide) ?_
  refine k_newI (N := 9) (c0 := 36) (s0 := 1777) dX11_init_38 al_int (by decide) (by decide) rfl (by decide) (by decide) (by decide +kernel) rfl rfl rfl ?_
  refine k_putf 5 dX11_init_40 (Or.inl ⟨ff_X11_22_10, rfl⟩) rfl (by decide) (by decide) (by decide) (fun _ => rfl) (fun _ => rfl) (fun _ => rfl) ?_
  refine k_aload_n dX11_init_43 0 rfl ?_
  refine k_bipush (v := 9) dX11_init_44 (by decide) ?_
  refine k_newI (N := 9) (c0 := 35) (s0 := 1768) dX11_init_46 al_int (by decide) (by decide) rfl (by decide) (by decide) (by decide +kernel) rfl rfl rfl ?_
  refine k_putf 6 dX11_init_48 (Or.inl ⟨ff_X11_25_10, rfl⟩) rfl (by decide) (by decide) (by decide) (fun _ => rfl) (fun _ => rfl) (fun _ => rfl) ?_
  refine k_aload_n dX11_init_51 0 rfl ?_
  refine k_bipush (v := 9) dX11_init_52 (by decide) ?_
  refine k_newI (N := 9) (c0 := 34) (s0 := 1759) dX11_init_54 al_int (by decide) (by decide) rfl (by decide) (by decide) (by decide +kernel) rfl rfl rfl ?_
  refine k_putf 7 dX11_init_56 (Or.inl ⟨ff_X11_28_10, rfl⟩) rfl (by decide) (by decide) (by decide) (fun _ => rfl) (fun _ => rfl) (fun _ => rfl) ?_
  refine k_aload_n dX11_init_59 0 rfl ?_
  refine k_bipush (v := 13) dX11_init_60 (by decide) ?_
  refine k_newI (N := 13) (c0 := 33) (s0 := 1746) dX11_init_62 al_int (by decide) (by decide) rfl (by decide) (by decide) (by decide +kernel) rfl rfl rfl ?_
  refine k_putf 9 dX11_init_64 (Or.inl ⟨ff_X11_31_10, rfl⟩) rfl (by decide) (by decide) (by decide) (fun _ => rfl) (fun _ => rfl) (fun _ => rfl) ?_
  refine k_aload_n dX11_init_67 0 rfl ?_
  refine k_bipush (v := 13) dX11_init_68 (by decide) ?_
  refine k_newI (N := 13) (c0 := 32) (s0 := 1733) dX11_init_70 al_int (by decide) (by decide) rfl (by decide) (by decide) (by decide +kernel) rfl rfl rfl ?_
  refine k_putf 10 dX11_init_72 (Or.inl ⟨ff_X11_34_10, rfl⟩) rfl (by decide) (by decide) (by decide) (fun _ => rfl) (fun _ => rfl) (fun _ => rfl) ?_
  refine k_aload_n dX11_init_75 0 rfl ?_
  refine k_bipush (v := 13) dX11_init_76 (by decide) ?_
  refine k_newI (N := 13) (c0 := 31) (s0 := 1720) dX11_init_78 al_int (by decide) (by decide) rfl (by decide) (by decide) (by decide +kernel) rfl rfl rfl ?_
  refine k_putf 11 dX11_init_80 (Or.inl ⟨ff_X11_37_10, rfl⟩) rfl (by decide) (by decide) (by decide) (fun _ => rfl) (fun _ => rfl) (fun _ => rfl) ?_
  refine k_aload_n dX11_init_83 0 rfl ?_
  refine k_bipush (v := 9) dX11_init_84 (by decide) ?_
  refine k_newI (N := 9) (c0 := 30) (s0 := 1711) dX11_init_86 al_int (by decide) (by decide) rfl (by decide) (by decide) (by decide +kernel) rfl rfl rfl ?_
  refine k_putf 13 dX11_init_88 (Or.inl ⟨ff_X11_40_10, rfl⟩) rfl (by decide) (by decide) (by decide) (fun _ => rfl) (fun _ => rfl) (fun _ => rfl) ?_
  refine k_aload_n dX11_init_91 0 rfl ?_
  refine k_bipush (v := 9) dX11_init_92 (by decide) ?_
  refine k_newI (N := 9) (c0 := 29) (s0 := 1702) dX11_init_94 al_int (by decide) (by decide) rfl (by decide) (by decide) (by decide +kernel) rfl rfl rfl ?_
  refine k_putf 14 dX11_init_96 (Or.inl ⟨ff_X11_43_10, rfl⟩) rfl (by decide) (by decide) (by decide) (fun _ => rfl) (fun _ => rfl) (fun _ => rfl) ?_
  refine k_aload_n dX11_init_99 0 rfl ?_
  refine k_bipush (v := 9) dX11_init_100 (by decide) ?_
  refine k_newI (N := 9) (c0 := 28) (s0 := 1693) dX11_init_102 al_int (by decide) (by decide) rfl (by decide) (by decide) (by decide +kernel) rfl rfl rfl ?_
  refine k_putf 15 dX11_init_104 (Or.inl ⟨ff_X11_46_10, rfl⟩) rfl (by decide) (by decide) (by decide) (fun _ => rfl) (fun _ => rfl) (fun _ => rfl) ?_
  refine k_aload_n dX11_init_107 0 rfl ?_
  refine k_bipush (v := 9) dX11_init_108 (by decide) ?_
  refine k_newI (N := 9) (c0 := 27) (s0 := 1684) dX11_init_110 al_int (by decide) (by decide) rfl (by decide) (by decide) (by decide +kernel) rfl rfl rfl ?_
  refine k_putf 18 dX11_init_112 (Or.inl ⟨ff_X11_49_10, rfl⟩) rfl (by decide) (by decide) (by decide) (fun _ => rfl) (fun _ => rfl) (fun _ => rfl) ?_
  refine k_aload_n dX11_init_115 0 rfl ?_
  refine k_bipush (v := 9) dX11_init_116 (by decide) ?_
  refine k_newI (N := 9) (c0 := 26) (s0 := 1675) dX11_init_118 al_int (by decide) (by decide) rfl (by decide) (by decide) (by decide +kernel) rfl rfl rfl ?_
  refine k_putf 19 dX11_init_120 (Or.inl ⟨ff_X11_52_10, rfl⟩) rfl (by decide) (by decide) (by decide) (fun _ => rfl) (fun _ => rfl) (fun _ => rfl) ?_
  refine k_aload_n dX11_init_123 0 rfl ?_
  refine k_bipush (v := 9) dX11_init_124 (by decide) ?_
  refine k_newI (N := 9) (c0 := 25) (s0 := 1666) dX11_init_126 al_int (by decide) (by decide) rfl (by decide) (by decide) (by decide +kernel) rfl rfl rfl ?_
  refine k_putf 20 dX11_init_128 (Or.inl ⟨ff_X11_55_10, rfl⟩) rfl (by decide) (by decide) (by decide) (fun _ => rfl) (fun _ => rfl) (fun _ => rfl) ?_
  refine k_aload_n dX11_init_131 0 rfl ?_
  refine k_bipush (v := 8) dX11_init_132 (by decide) ?_
  refine k_newI (N := 8) (c0 := 24) (s0 := 1658) dX11_init_134 al_int (by decide) (by decide) rfl (by decide) (by decide) (by decide +kernel) rfl rfl rfl ?_
  refine k_putf 22 dX11_init_136 (Or.inl ⟨ff_X11_58_10, rfl⟩) rfl (by decide) (by decide) (by decide) (fun _ => rfl) (fun _ => rfl) (fun _ => rfl) ?_
  refine k_aload_n dX11_init_139 0 rfl ?_
  refine k_bipush (v := 8) dX11_init_140 (by decide) ?_
  refine k_newI (N := 8) (c0 := 23) (s0 := 1650) dX11_init_142 al_int (by decide) (by decide) rfl (by decide) (by decide) (by decide +kernel) rfl rfl rfl ?_
  refine k_putf 23 dX11_init_144 (Or.inl ⟨ff_X11_61_10, rfl⟩) rfl (by decide) (by decide) (by decide) (fun _ => rfl) (fun _ => rfl) (fun _ => rfl) ?_
  refine k_aload_n dX11_init_147 0 rfl ?_
  refine k_bipush (v := 8) dX11_init_148 (by decide) ?_
  refine k_newI (N := 8) (c0 := 22) (s0 := 1642) dX11_init_150 al_int (by decide) (by decide) rfl (by decide) (by decide) (by decide +kernel) rfl rfl rfl ?_
  refine k_putf 24 dX11_init_152 (Or.inl ⟨ff_X11_64_10, rfl⟩) rfl (by decide) (by decide) (by decide) (fun _ => rfl) (fun _ => rfl) (fun _ => rfl) ?_
  refine k_aload_n dX11_init_155 0 rfl ?_
  refine k_bipush (v := 8) dX11_init_156 (by decide) ?_
  refine k_newI (N := 8) (c0 := 21) (s0 := 1634) dX11_init_158 al_int (by decide) (by decide) rfl (by decide) (by decide) (by decide +kernel) rfl rfl rfl ?_
  refine k_putf 25 dX11_init_160 (Or.inl ⟨ff_X11_67_10, rfl⟩) rfl (by decide) (by decide) (by decide) (fun _ => rfl) (fun _ => rfl) (fun _ => rfl) ?_
  refine k_aload_n dX11_init_163 0 rfl ?_
  refine k_bipush (v := 8) dX11_init_164 (by decide) ?_
  refine k_newI (N := 8) (c0 := 20) (s0 := 1626) dX11_init_166 al_int (by decide) (by decide) rfl (by decide) (by decide) (by decide +kernel) rfl rfl rfl ?_
  refine k_putf 26 dX11_init_168 (Or.inl ⟨ff_X11_70_10, rfl⟩) rfl (by decide) (by decide) (by decide) (fun _ => rfl) (fun _ => rfl) (fun _ => rfl) ?_
  refine k_aload_n dX11_init_171 0 rfl ?_
  refine k_bipush (v := 8) dX11_init_172 (by decide) ?_
  refine k_newI (N := 8) (c0 := 19) (s0 := 1618) dX11_init_174 al_int (by decide) (by decide) rfl (by decide) (by decide) (by decide +kernel) rfl rfl rfl ?_
  refine k_putf 27 dX11_init_176 (Or.inl ⟨ff_X11_73_10, rfl⟩) rfl (by decide) (by decide) (by decide) (fun _ => rfl) (fun _ => rfl) (fun _ => rfl) ?_
  refine k_aload_n dX11_init_179 0 rfl ?_
  refine k_sipush (v := 192) dX11_init_180 (by decide) ?_
  refine k_newI (N := 192) (c0 := 18) (s0 := 1426) dX11_init_183 al_int (by decide) (by decide) rfl (by decide) (by decide) (by decide +kernel) rfl rfl rfl ?_
  refine k_putf 32 dX11_init_185 (Or.inl ⟨ff_X11_76_10, rfl⟩) rfl (by decide) (by decide) (by decide) (fun _ => rfl) (fun _ => rfl) (fun _ => rfl) ?_
  refine k_aload_n dX11_init_188 0 rfl ?_
  refine k_sipush (v := 192) dX11_init_189 (by decide) ?_
  refine k_newI (N := 192) (c0 := 17) (s0 := 1234) dX11_init_192 al_int (by decide) (by decide) rfl (by decide) (by decide) (by decide +kernel) rfl rfl rfl ?_
  refine k_putf 33 dX11_init_194 (Or.inl ⟨ff_X11_79_10, rfl⟩) rfl (by decide) (by decide) (by decide) (fun _ => rfl) (fun _ => rfl) (fun _ => rfl) ?_
  refine k_aload_n dX11_init_197 0 rfl ?_
  refine k_sipush (v := 192) dX11_init_198 (by decide) ?_
  refine k_newI (N := 192) (c0 := 16) (s0 := 1042) dX11_init_201 al_int (by decide) (by decide) rfl (by decide) (by decide) (by decide +kernel) rfl rfl rfl ?_
  refine k_putf 34 dX11_init_203 (Or.inl ⟨ff_X11_82_10, rfl⟩) rfl (by decide) (by decide) (by decide) (fun _ => rfl) (fun _ => rfl) (fun _ => rfl) ?_
  refine k_aload_n dX11_init_206 0 rfl ?_
  refine k_sipush (v := 192) dX11_init_207 (by decide) ?_
  refine k_newI (N := 192) (c0 := 15) (s0 := 850) dX11_init_210 al_int (by decide) (by decide) rfl (by decide) (by decide) (by decide +kernel) rfl rfl rfl ?_
  refine k_putf 35 dX11_init_212 (Or.inl ⟨ff_X11_85_10, rfl⟩) rfl (by decide) (by decide) (by decide) (fun _ => rfl) (fun _ => rfl) (fun _ => rfl) ?_
  refine k_aload_n dX11_init_215 0 rfl ?_
  refine k_sipush (v := 192) dX11_init_216 (by decide) ?_
  refine k_newI (N := 192) (c0 := 14) (s0 := 658) dX11_init_219 al_int (by decide) (by decide) rfl (by decide) (by decide) (by decide +kernel) rfl rfl rfl ?_
  refine k_putf 36 dX11_init_221 (Or.inl ⟨ff_X11_88_10, rfl⟩) rfl (by decide) (by decide) (by decide) (fun _ => rfl) (fun _ => rfl) (fun _ => rfl) ?_
  refine k_aload_n dX11_init_224 0 rfl ?_
  refine k_bipush (v := 24) dX11_init_225 (by decide) ?_
  refine k_newI (N := 24) (c0 := 13) (s0 := 634) dX11_init_227 al_int (by decide) (by decide) rfl (by decide) (by decide) (by decide +kernel) rfl rfl rfl ?_
  refine k_putf 37 dX11_init_229 (Or.inl ⟨ff_X11_91_10, rfl⟩) rfl (by decide) (by decide) (by decide) (fun _ => rfl) (fun _ => rfl) (fun _ => rfl) ?_
  refine k_aload_n dX11_init_232 0 rfl ?_
  refine k_bipush (v := 24) dX11_init_233 (by decide) ?_
  refine k_newI (N := 24) (c0 := 12) (s0 := 610) dX11_init_235 al_int (by decide) (by decide) rfl (by decide) (by decide) (by decide +kernel) rfl rfl rfl ?_
  refine k_putf 38 dX11_init_237 (Or.inl ⟨ff_X11_94_10, rfl⟩) rfl (by decide) (by decide) (by decide) (fun _ => rfl) (fun _ => rfl) (fun _ => rfl) ?_
  refine k_aload_n dX11_init_240 0 rfl ?_
  refine k_bipush (v := 24) dX11_init_241 (by decide) ?_
  refine k_newI (N := 24) (c0 := 11) (s0 := 586) dX11_init_243 al_int (by decide) (by decide) rfl (by decide) (by decide) (by decide +kernel) rfl rfl rfl ?_
  refine k_putf 39 dX11_init_245 (Or.inl ⟨ff_X11_97_10, rfl⟩) rfl (by decide) (by decide) (by decide) (fun _ => rfl) (fun _ => rfl) (fun _ => rfl) ?_
  refine k_aload_n dX11_init_248 0 rfl ?_
  refine k_iconst (v := 2) dX11_init_249 (by decide) ?_
  refine k_newI (N := 2) (c0 := 10) (s0 := 584) dX11_init_250 al_int (by decide) (by decide) rfl (by decide) (by decide) (by decide +kernel) rfl rfl rfl ?_
  refine k_putf 40 dX11_init_252 (Or.inl ⟨ff_X11_100_10, rfl⟩) rfl (by decide) (by decide) (by decide) (fun _ => rfl) (fun _ => rfl) (fun _ => rfl) ?_
  refine k_aload_n dX11_init_255 0 rfl ?_
  refine k_bipush (v := 8) dX11_init_256 (by decide) ?_
  refine k_newI (N := 8) (c0 := 9) (s0 := 576) dX11_init_258 al_int (by decide) (by decide) rfl (by decide) (by decide) (by decide +kernel) rfl rfl rfl ?_
  refine k_putf 42 dX11_init_260 (Or.inl ⟨ff_X11_103_10, rfl⟩) rfl (by decide) (by decide) (by decide) (fun _ => rfl) (fun _ => rfl) (fun _ => rfl) ?_
  refine k_aload_n dX11_init_263 0 rfl ?_
  refine k_bipush (v := 8) dX11_init_264 (by decide) ?_
  refine k_newI (N := 8) (c0 := 8) (s0 := 568) dX11_init_266 al_int (by decide) (by decide) rfl (by decide) (by decide) (by decide +kernel) rfl rfl rfl ?_
  refine k_putf 43 dX11_init_268 (Or.inl ⟨ff_X11_106_10, rfl⟩) rfl (by decide) (by decide) (by decide) (fun _ => rfl) (fun _ => rfl) (fun _ => rfl) ?_
  refine k_aload_n dX11_init_271 0 rfl ?_
  refine k_bipush (v := 8) dX11_init_272 (by decide) ?_
  refine k_newI (N := 8) (c0 := 7) (s0 := 560) dX11_init_274 al_int (by decide) (by decide) rfl (by decide) (by decide) (by decide +kernel) rfl rfl rfl ?_
  refine k_putf 44 dX11_init_276 (Or.inl ⟨ff_X11_109_10, rfl⟩) rfl (by decide) (by decide) (by decide) (fun _ => rfl) (fun _ => rfl) (fun _ => rfl) ?_
  refine k_aload_n dX11_init_279 0 rfl ?_
  refine k_bipush (v := 8) dX11_init_280 (by decide) ?_
  refine k_newI (N := 8) (c0 := 6) (s0 := 552) dX11_init_282 al_int (by decide) (by decide) rfl (by decide) (by decide) (by decide +kernel) rfl rfl rfl ?_
  refine k_putf 45 dX11_init_284 (Or.inl ⟨ff_X11_112_10, rfl⟩) rfl (by decide) (by decide) (by decide) (fun _ => rfl) (fun _ => rfl) (fun _ => rfl) ?_
  refine k_aload_n dX11_init_287 0 rfl ?_
  refine k_sipush (v := 240) dX11_init_288 (by decide) ?_
  refine k_newI (N := 240) (c0 := 5) (s0 := 312) dX11_init_291 al_int (by decide) (by decide) rfl (by decide) (by decide) (by decide +kernel) rfl rfl rfl ?_
  refine k_putf 46 dX11_init_293 (Or.inl ⟨ff_X11_115_10, rfl⟩) rfl (by decide) (by decide) (by decide) (fun _ => rfl) (fun _ => rfl) (fun _ => rfl) ?_
  refine k_aload_n dX11_init_296 0 rfl ?_
  refine k_iconst (v := 4) dX11_init_297 (by decide) ?_
  refine k_newZ (N := 4) (c0 := 4) (s0 := 308) dX11_init_298 al_boolean (by decide) (by decide) rfl (by decide) (by decide) (by decide +kernel) rfl rfl rfl ?_
  refine k_putf 47 dX11_init_300 (Or.inl ⟨ff_X11_118_10, rfl⟩) rfl (by decide) (by decide) (by decide) (fun _ => rfl) (fun _ => rfl) (fun _ => rfl) ?_
  refine k_aload_n dX11_init_303 0 rfl ?_
  refine k_iconst (v := 4) dX11_init_304 (by decide) ?_
  refine k_newI (N := 4) (c0 := 3) (s0 := 304) dX11_init_305 al_int (by decide) (by decide) rfl (by decide) (by decide) (by decide +kernel) rfl rfl rfl ?_
  refine k_putf 48 dX11_init_307 (Or.inl ⟨ff_X11_122_10, rfl⟩) rfl (by decide) (by decide) (by decide) (fun _ => rfl) (fun _ => rfl) (fun _ => rfl) ?_
  refine k_aload_n dX11_init_310 0 rfl ?_
  refine k_iconst (v := 4) dX11_init_311 (by decide) ?_
  refine k_newI (N := 4) (c0 := 2) (s0 := 300) dX11_init_312 al_int (by decide) (by decide) rfl (by decide) (by decide) (by decide +kernel) rfl rfl rfl ?_
  refine k_putf 49 dX11_init_314 (Or.inl ⟨ff_X11_125_10, rfl⟩) rfl (by decide) (by decide) (by decide) (fun _ => rfl) (fun _ => rfl) (fun _ => rfl) ?_
  refine k_aload_n dX11_init_317 0 rfl ?_
  refine k_sipush (v := 240) dX11_init_318 (by decide) ?_
  refine k_newI (N := 240) (c0 := 1) (s0 := 60) dX11_init_321 al_int (by decide) (by decide) rfl (by decide) (by decide) (by decide +kernel) rfl rfl rfl ?_
  refine k_putf 50 dX11_init_323 (Or.inl ⟨ff_X11_128_10, rfl⟩) rfl (by decide) (by decide) (by decide) (fun _ => rfl) (fun _ => rfl) (fun _ => rfl) ?_
  refine k_aload_n dX11_init_326 0 rfl ?_
  refine k_bipush (v := 60) dX11_init_327 (by decide) ?_
  refine k_newI (N := 60) (c0 := 0) (s0 := 0) dX11_init_329 al_int (by decide) (by decide) rfl (by decide) (by decide) (by decide +kernel) rfl rfl rfl ?_
  refine k_putf 51 dX11_init_331 (Or.inl ⟨ff_X11_131_10, rfl⟩) rfl (by decide) (by decide) (by decide) (fun _ => rfl) (fun _ => rfl) (fun _ => rfl) ?_
  refine k_close rfl (by decide) (by decide) rfl (by decide +kernel) ?_
  exact k_stop
/-- the law makes both -/
theorem lw_make (hd : 6 ≤ d) : kW g l d kL_law 0 [(0, .ref 1030)] [] 0 [] 153 5703 (18, [(3, .int 0), (2, .ref 111), (1, .ref 0), (0, .ref 1030)], [], 153, []) := by
  refine k_new (ci := 9) (N := 11) (c0 := 152) (s0 := 5692) dL_law_0 nn_L_7 rfl (by decide) (by decide) (by decide +kernel) rfl rfl ?_
  refine k_dup dL_law_3 rfl ?_
  refine k_callI (As := []) (mc := 110) (ms := 3739) (c0 := 42) (s0 := 1953) (d1 := d - 1) dL_law_4 ci_L_9 (by omega) rfl rfl (by decide) (by decide) rfl rfl (kc_X10_init_0 (by omega)) ?_
  refine k_astore_n (ls1 := [(1, _), (0, _)]) dL_law_7 (by decide) rfl ?_
  refine k_new (ci := 10) (N := 53) (c0 := 41) (s0 := 1900) dL_law_8 nn_L_10 rfl (by decide) (by decide) (by decide +kernel) rfl rfl ?_
  refine k_dup dL_law_11 rfl ?_
  refine k_callI (As := []) (mc := 41) (ms := 1900) (c0 := 0) (s0 := 0) (d1 := d - 1) dL_law_12 ci_L_12 (by omega) rfl rfl (by decide) (by decide) rfl rfl (kc_X11_init_111 (by omega)) ?_
  refine k_astore_n (ls1 := [(2, _), (1, _), (0, _)]) dL_law_15 (by decide) rfl ?_
  refine k_iconst (v := 0) dL_law_16 (by decide) ?_
  refine k_istore_n (ls1 := [(3, _), (2, _), (1, _), (0, _)]) dL_law_17 (by decide) rfl ?_
  exact k_stop
end KC
