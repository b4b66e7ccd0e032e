/-! the constructors -/
theorem dX0_init_0 : decode cX0_init 0 = .ok (.aload_n 0, 1) := by decide +kernel
theorem dX0_init_1 : decode cX0_init 1 = .ok (.invokespecial 3, 3) := by decide +kernel
theorem dX0_init_4 : decode cX0_init 4 = .ok (.aload_n 0, 1) := by decide +kernel
theorem dX0_init_5 : decode cX0_init 5 = .ok (.sipush 168, 3) := by decide +kernel
theorem dX0_init_8 : decode cX0_init 8 = .ok (.newarray .int, 2) := by decide +kernel
theorem dX0_init_10 : decode cX0_init 10 = .ok (.putfield 11, 3) := by decide +kernel
theorem dX0_init_13 : decode cX0_init 13 = .ok (.aload_n 0, 1) := by decide +kernel
theorem dX0_init_14 : decode cX0_init 14 = .ok (.bipush 21, 2) := by decide +kernel
theorem dX0_init_16 : decode cX0_init 16 = .ok (.newarray .int, 2) := by decide +kernel
theorem dX0_init_18 : decode cX0_init 18 = .ok (.putfield 15, 3) := by decide +kernel
theorem dX0_init_21 : decode cX0_init 21 = .ok (.aload_n 0, 1) := by decide +kernel
theorem dX0_init_22 : decode cX0_init 22 = .ok (.bipush 21, 2) := by decide +kernel
theorem dX0_init_24 : decode cX0_init 24 = .ok (.newarray .int, 2) := by decide +kernel
theorem dX0_init_26 : decode cX0_init 26 = .ok (.putfield 18, 3) := by decide +kernel
theorem dX0_init_29 : decode cX0_init 29 = .ok (.aload_n 0, 1) := by decide +kernel
theorem dX0_init_30 : decode cX0_init 30 = .ok (.iconst 0, 1) := by decide +kernel
theorem dX0_init_31 : decode cX0_init 31 = .ok (.putfield 21, 3) := by decide +kernel
theorem dX0_init_34 : decode cX0_init 34 = .ok (.aload_n 0, 1) := by decide +kernel
theorem dX0_init_35 : decode cX0_init 35 = .ok (.iconst 0, 1) := by decide +kernel
theorem dX0_init_36 : decode cX0_init 36 = .ok (.putfield 25, 3) := by decide +kernel
theorem dX0_init_39 : decode cX0_init 39 = .ok (.aload_n 0, 1) := by decide +kernel
theorem dX0_init_40 : decode cX0_init 40 = .ok (.iconst 0, 1) := by decide +kernel
theorem dX0_init_41 : decode cX0_init 41 = .ok (.putfield 28, 3) := by decide +kernel
theorem dX0_init_44 : decode cX0_init 44 = .ok (.aload_n 0, 1) := by decide +kernel
theorem dX0_init_45 : decode cX0_init 45 = .ok (.iconst (-1), 1) := by decide +kernel
theorem dX0_init_46 : decode cX0_init 46 = .ok (.putfield 31, 3) := by decide +kernel
theorem dX0_init_49 : decode cX0_init 49 = .ok (.aload_n 0, 1) := by decide +kernel
theorem dX0_init_50 : decode cX0_init 50 = .ok (.iconst (-1), 1) := by decide +kernel
theorem dX0_init_51 : decode cX0_init 51 = .ok (.putfield 34, 3) := by decide +kernel
theorem dX0_init_54 : decode cX0_init 54 = .ok (.aload_n 0, 1) := by decide +kernel
theorem dX0_init_55 : decode cX0_init 55 = .ok (.aload_n 1, 1) := by decide +kernel
theorem dX0_init_56 : decode cX0_init 56 = .ok (.putfield 37, 3) := by decide +kernel
theorem dX0_init_59 : decode cX0_init 59 = .ok (.aload_n 0, 1) := by decide +kernel
theorem dX0_init_60 : decode cX0_init 60 = .ok (.aload_n 2, 1) := by decide +kernel
theorem dX0_init_61 : decode cX0_init 61 = .ok (.putfield 41, 3) := by decide +kernel
theorem dX0_init_64 : decode cX0_init 64 = .ok (.aload_n 0, 1) := by decide +kernel
theorem dX0_init_65 : decode cX0_init 65 = .ok (.aload_n 3, 1) := by decide +kernel
theorem dX0_init_66 : decode cX0_init 66 = .ok (.putfield 45, 3) := by decide +kernel
theorem dX0_init_69 : decode cX0_init 69 = .ok (.return_, 1) := by decide +kernel
theorem dX1_init_0 : decode cX1_init 0 = .ok (.aload_n 0, 1) := by decide +kernel
theorem dX1_init_1 : decode cX1_init 1 = .ok (.invokespecial 3, 3) := by decide +kernel
theorem dX1_init_4 : decode cX1_init 4 = .ok (.aload_n 0, 1) := by decide +kernel
theorem dX1_init_5 : decode cX1_init 5 = .ok (.bipush 40, 2) := by decide +kernel
theorem dX1_init_7 : decode cX1_init 7 = .ok (.newarray .int, 2) := by decide +kernel
theorem dX1_init_9 : decode cX1_init 9 = .ok (.putfield 9, 3) := by decide +kernel
theorem dX1_init_12 : decode cX1_init 12 = .ok (.aload_n 0, 1) := by decide +kernel
theorem dX1_init_13 : decode cX1_init 13 = .ok (.iconst 0, 1) := by decide +kernel
theorem dX1_init_14 : decode cX1_init 14 = .ok (.putfield 15, 3) := by decide +kernel
theorem dX1_init_17 : decode cX1_init 17 = .ok (.return_, 1) := by decide +kernel
theorem dX2_init_0 : decode cX2_init 0 = .ok (.aload_n 0, 1) := by decide +kernel
theorem dX2_init_1 : decode cX2_init 1 = .ok (.invokespecial 3, 3) := by decide +kernel
theorem dX2_init_4 : decode cX2_init 4 = .ok (.aload_n 0, 1) := by decide +kernel
theorem dX2_init_5 : decode cX2_init 5 = .ok (.bipush 12, 2) := by decide +kernel
theorem dX2_init_7 : decode cX2_init 7 = .ok (.newarray .int, 2) := by decide +kernel
theorem dX2_init_9 : decode cX2_init 9 = .ok (.putfield 9, 3) := by decide +kernel
theorem dX2_init_12 : decode cX2_init 12 = .ok (.aload_n 0, 1) := by decide +kernel
theorem dX2_init_13 : decode cX2_init 13 = .ok (.bipush 12, 2) := by decide +kernel
theorem dX2_init_15 : decode cX2_init 15 = .ok (.newarray .int, 2) := by decide +kernel
theorem dX2_init_17 : decode cX2_init 17 = .ok (.putfield 15, 3) := by decide +kernel
theorem dX2_init_20 : decode cX2_init 20 = .ok (.aload_n 0, 1) := by decide +kernel
theorem dX2_init_21 : decode cX2_init 21 = .ok (.bipush 72, 2) := by decide +kernel
theorem dX2_init_23 : decode cX2_init 23 = .ok (.newarray .int, 2) := by decide +kernel
theorem dX2_init_25 : decode cX2_init 25 = .ok (.putfield 18, 3) := by decide +kernel
theorem dX2_init_28 : decode cX2_init 28 = .ok (.return_, 1) := by decide +kernel
theorem dX3_init_0 : decode cX3_init 0 = .ok (.aload_n 0, 1) := by decide +kernel
theorem dX3_init_1 : decode cX3_init 1 = .ok (.invokespecial 3, 3) := by decide +kernel
theorem dX3_init_4 : decode cX3_init 4 = .ok (.aload_n 0, 1) := by decide +kernel
theorem dX3_init_5 : decode cX3_init 5 = .ok (.sipush 2880, 3) := by decide +kernel
theorem dX3_init_8 : decode cX3_init 8 = .ok (.newarray .int, 2) := by decide +kernel
theorem dX3_init_10 : decode cX3_init 10 = .ok (.putfield 9, 3) := by decide +kernel
theorem dX3_init_13 : decode cX3_init 13 = .ok (.aload_n 0, 1) := by decide +kernel
theorem dX3_init_14 : decode cX3_init 14 = .ok (.bipush 48, 2) := by decide +kernel
theorem dX3_init_16 : decode cX3_init 16 = .ok (.newarray .int, 2) := by decide +kernel
theorem dX3_init_18 : decode cX3_init 18 = .ok (.putfield 15, 3) := by decide +kernel
theorem dX3_init_21 : decode cX3_init 21 = .ok (.aload_n 0, 1) := by decide +kernel
theorem dX3_init_22 : decode cX3_init 22 = .ok (.bipush 48, 2) := by decide +kernel
theorem dX3_init_24 : decode cX3_init 24 = .ok (.newarray .int, 2) := by decide +kernel
theorem dX3_init_26 : decode cX3_init 26 = .ok (.putfield 18, 3) := by decide +kernel
theorem dX3_init_29 : decode cX3_init 29 = .ok (.aload_n 0, 1) := by decide +kernel
theorem dX3_init_30 : decode cX3_init 30 = .ok (.iconst (-1), 1) := by decide +kernel
theorem dX3_init_31 : decode cX3_init 31 = .ok (.putfield 21, 3) := by decide +kernel
theorem dX3_init_34 : decode cX3_init 34 = .ok (.aload_n 0, 1) := by decide +kernel
theorem dX3_init_35 : decode cX3_init 35 = .ok (.aload_n 1, 1) := by decide +kernel
theorem dX3_init_36 : decode cX3_init 36 = .ok (.putfield 25, 3) := by decide +kernel
theorem dX3_init_39 : decode cX3_init 39 = .ok (.aload_n 0, 1) := by decide +kernel
theorem dX3_init_40 : decode cX3_init 40 = .ok (.aload_n 2, 1) := by decide +kernel
theorem dX3_init_41 : decode cX3_init 41 = .ok (.putfield 29, 3) := by decide +kernel
theorem dX3_init_44 : decode cX3_init 44 = .ok (.return_, 1) := by decide +kernel
theorem dX4_init_0 : decode cX4_init 0 = .ok (.aload_n 0, 1) := by decide +kernel
theorem dX4_init_1 : decode cX4_init 1 = .ok (.invokespecial 3, 3) := by decide +kernel
theorem dX4_init_4 : decode cX4_init 4 = .ok (.aload_n 0, 1) := by decide +kernel
theorem dX4_init_5 : decode cX4_init 5 = .ok (.bipush 60, 2) := by decide +kernel
theorem dX4_init_7 : decode cX4_init 7 = .ok (.newarray .int, 2) := by decide +kernel
theorem dX4_init_9 : decode cX4_init 9 = .ok (.putfield 9, 3) := by decide +kernel
theorem dX4_init_12 : decode cX4_init 12 = .ok (.aload_n 0, 1) := by decide +kernel
theorem dX4_init_13 : decode cX4_init 13 = .ok (.bipush 40, 2) := by decide +kernel
theorem dX4_init_15 : decode cX4_init 15 = .ok (.newarray .int, 2) := by decide +kernel
theorem dX4_init_17 : decode cX4_init 17 = .ok (.putfield 15, 3) := by decide +kernel
theorem dX4_init_20 : decode cX4_init 20 = .ok (.aload_n 0, 1) := by decide +kernel
theorem dX4_init_21 : decode cX4_init 21 = .ok (.bipush 40, 2) := by decide +kernel
theorem dX4_init_23 : decode cX4_init 23 = .ok (.newarray .int, 2) := by decide +kernel
theorem dX4_init_25 : decode cX4_init 25 = .ok (.putfield 18, 3) := by decide +kernel
theorem dX4_init_28 : decode cX4_init 28 = .ok (.aload_n 0, 1) := by decide +kernel
theorem dX4_init_29 : decode cX4_init 29 = .ok (.bipush 40, 2) := by decide +kernel
theorem dX4_init_31 : decode cX4_init 31 = .ok (.newarray .int, 2) := by decide +kernel
theorem dX4_init_33 : decode cX4_init 33 = .ok (.putfield 21, 3) := by decide +kernel
theorem dX4_init_36 : decode cX4_init 36 = .ok (.aload_n 0, 1) := by decide +kernel
theorem dX4_init_37 : decode cX4_init 37 = .ok (.aload_n 1, 1) := by decide +kernel
theorem dX4_init_38 : decode cX4_init 38 = .ok (.putfield 24, 3) := by decide +kernel
theorem dX4_init_41 : decode cX4_init 41 = .ok (.return_, 1) := by decide +kernel
theorem dX5_init_0 : decode cX5_init 0 = .ok (.aload_n 0, 1) := by decide +kernel
theorem dX5_init_1 : decode cX5_init 1 = .ok (.invokespecial 3, 3) := by decide +kernel
theorem dX5_init_4 : decode cX5_init 4 = .ok (.aload_n 0, 1) := by decide +kernel
theorem dX5_init_5 : decode cX5_init 5 = .ok (.bipush 8, 2) := by decide +kernel
theorem dX5_init_7 : decode cX5_init 7 = .ok (.newarray .int, 2) := by decide +kernel
theorem dX5_init_9 : decode cX5_init 9 = .ok (.putfield 9, 3) := by decide +kernel
theorem dX5_init_12 : decode cX5_init 12 = .ok (.aload_n 0, 1) := by decide +kernel
theorem dX5_init_13 : decode cX5_init 13 = .ok (.bipush 8, 2) := by decide +kernel
theorem dX5_init_15 : decode cX5_init 15 = .ok (.newarray .boolean, 2) := by decide +kernel
theorem dX5_init_17 : decode cX5_init 17 = .ok (.putfield 15, 3) := by decide +kernel
theorem dX5_init_20 : decode cX5_init 20 = .ok (.aload_n 0, 1) := by decide +kernel
theorem dX5_init_21 : decode cX5_init 21 = .ok (.bipush 96, 2) := by decide +kernel
theorem dX5_init_23 : decode cX5_init 23 = .ok (.newarray .int, 2) := by decide +kernel
theorem dX5_init_25 : decode cX5_init 25 = .ok (.putfield 19, 3) := by decide +kernel
theorem dX5_init_28 : decode cX5_init 28 = .ok (.aload_n 0, 1) := by decide +kernel
theorem dX5_init_29 : decode cX5_init 29 = .ok (.bipush 8, 2) := by decide +kernel
theorem dX5_init_31 : decode cX5_init 31 = .ok (.newarray .int, 2) := by decide +kernel
theorem dX5_init_33 : decode cX5_init 33 = .ok (.putfield 22, 3) := by decide +kernel
theorem dX5_init_36 : decode cX5_init 36 = .ok (.aload_n 0, 1) := by decide +kernel
theorem dX5_init_37 : decode cX5_init 37 = .ok (.bipush 8, 2) := by decide +kernel
theorem dX5_init_39 : decode cX5_init 39 = .ok (.newarray .int, 2) := by decide +kernel
theorem dX5_init_41 : decode cX5_init 41 = .ok (.putfield 25, 3) := by decide +kernel
theorem dX5_init_44 : decode cX5_init 44 = .ok (.aload_n 0, 1) := by decide +kernel
theorem dX5_init_45 : decode cX5_init 45 = .ok (.bipush 40, 2) := by decide +kernel
theorem dX5_init_47 : decode cX5_init 47 = .ok (.newarray .int, 2) := by decide +kernel
theorem dX5_init_49 : decode cX5_init 49 = .ok (.putfield 28, 3) := by decide +kernel
theorem dX5_init_52 : decode cX5_init 52 = .ok (.aload_n 0, 1) := by decide +kernel
theorem dX5_init_53 : decode cX5_init 53 = .ok (.sipush 240, 3) := by decide +kernel
theorem dX5_init_56 : decode cX5_init 56 = .ok (.newarray .int, 2) := by decide +kernel
theorem dX5_init_58 : decode cX5_init 58 = .ok (.putfield 31, 3) := by decide +kernel
theorem dX5_init_61 : decode cX5_init 61 = .ok (.aload_n 0, 1) := by decide +kernel
theorem dX5_init_62 : decode cX5_init 62 = .ok (.iconst 0, 1) := by decide +kernel
theorem dX5_init_63 : decode cX5_init 63 = .ok (.putfield 34, 3) := by decide +kernel
theorem dX5_init_66 : decode cX5_init 66 = .ok (.aload_n 0, 1) := by decide +kernel
theorem dX5_init_67 : decode cX5_init 67 = .ok (.iconst 0, 1) := by decide +kernel
theorem dX5_init_68 : decode cX5_init 68 = .ok (.putfield 38, 3) := by decide +kernel
theorem dX5_init_71 : decode cX5_init 71 = .ok (.aload_n 0, 1) := by decide +kernel
theorem dX5_init_72 : decode cX5_init 72 = .ok (.iconst 0, 1) := by decide +kernel
theorem dX5_init_73 : decode cX5_init 73 = .ok (.putfield 41, 3) := by decide +kernel
theorem dX5_init_76 : decode cX5_init 76 = .ok (.return_, 1) := by decide +kernel
theorem dX6_init_0 : decode cX6_init 0 = .ok (.aload_n 0, 1) := by decide +kernel
theorem dX6_init_1 : decode cX6_init 1 = .ok (.invokespecial 1, 3) := by decide +kernel
theorem dX6_init_4 : decode cX6_init 4 = .ok (.aload_n 0, 1) := by decide +kernel
theorem dX6_init_5 : decode cX6_init 5 = .ok (.new 7, 3) := by decide +kernel
theorem dX6_init_8 : decode cX6_init 8 = .ok (.dup, 1) := by decide +kernel
theorem dX6_init_9 : decode cX6_init 9 = .ok (.invokespecial 9, 3) := by decide +kernel
theorem dX6_init_12 : decode cX6_init 12 = .ok (.putfield 10, 3) := by decide +kernel
theorem dX6_init_15 : decode cX6_init 15 = .ok (.aload_n 0, 1) := by decide +kernel
theorem dX6_init_16 : decode cX6_init 16 = .ok (.new 16, 3) := by decide +kernel
theorem dX6_init_19 : decode cX6_init 19 = .ok (.dup, 1) := by decide +kernel
theorem dX6_init_20 : decode cX6_init 20 = .ok (.invokespecial 18, 3) := by decide +kernel
theorem dX6_init_23 : decode cX6_init 23 = .ok (.putfield 19, 3) := by decide +kernel
theorem dX6_init_26 : decode cX6_init 26 = .ok (.aload_n 0, 1) := by decide +kernel
theorem dX6_init_27 : decode cX6_init 27 = .ok (.new 23, 3) := by decide +kernel
theorem dX6_init_30 : decode cX6_init 30 = .ok (.dup, 1) := by decide +kernel
theorem dX6_init_31 : decode cX6_init 31 = .ok (.invokespecial 25, 3) := by decide +kernel
theorem dX6_init_34 : decode cX6_init 34 = .ok (.putfield 26, 3) := by decide +kernel
theorem dX6_init_37 : decode cX6_init 37 = .ok (.new 30, 3) := by decide +kernel
theorem dX6_init_40 : decode cX6_init 40 = .ok (.dup, 1) := by decide +kernel
theorem dX6_init_41 : decode cX6_init 41 = .ok (.aload_n 0, 1) := by decide +kernel
theorem dX6_init_42 : decode cX6_init 42 = .ok (.getfield 26, 3) := by decide +kernel
theorem dX6_init_45 : decode cX6_init 45 = .ok (.invokespecial 32, 3) := by decide +kernel
theorem dX6_init_48 : decode cX6_init 48 = .ok (.astore_n 1, 1) := by decide +kernel
theorem dX6_init_49 : decode cX6_init 49 = .ok (.aload_n 0, 1) := by decide +kernel
theorem dX6_init_50 : decode cX6_init 50 = .ok (.new 35, 3) := by decide +kernel
theorem dX6_init_53 : decode cX6_init 53 = .ok (.dup, 1) := by decide +kernel
theorem dX6_init_54 : decode cX6_init 54 = .ok (.aload_n 0, 1) := by decide +kernel
theorem dX6_init_55 : decode cX6_init 55 = .ok (.getfield 26, 3) := by decide +kernel
theorem dX6_init_58 : decode cX6_init 58 = .ok (.aload_n 1, 1) := by decide +kernel
theorem dX6_init_59 : decode cX6_init 59 = .ok (.invokespecial 37, 3) := by decide +kernel
theorem dX6_init_62 : decode cX6_init 62 = .ok (.putfield 40, 3) := by decide +kernel
theorem dX6_init_65 : decode cX6_init 65 = .ok (.aload_n 0, 1) := by decide +kernel
theorem dX6_init_66 : decode cX6_init 66 = .ok (.new 44, 3) := by decide +kernel
theorem dX6_init_69 : decode cX6_init 69 = .ok (.dup, 1) := by decide +kernel
theorem dX6_init_70 : decode cX6_init 70 = .ok (.aload_n 0, 1) := by decide +kernel
theorem dX6_init_71 : decode cX6_init 71 = .ok (.getfield 26, 3) := by decide +kernel
theorem dX6_init_74 : decode cX6_init 74 = .ok (.aload_n 1, 1) := by decide +kernel
theorem dX6_init_75 : decode cX6_init 75 = .ok (.aload_n 0, 1) := by decide +kernel
theorem dX6_init_76 : decode cX6_init 76 = .ok (.getfield 40, 3) := by decide +kernel
theorem dX6_init_79 : decode cX6_init 79 = .ok (.invokespecial 46, 3) := by decide +kernel
theorem dX6_init_82 : decode cX6_init 82 = .ok (.putfield 49, 3) := by decide +kernel
theorem dX6_init_85 : decode cX6_init 85 = .ok (.aload_n 0, 1) := by decide +kernel
theorem dX6_init_86 : decode cX6_init 86 = .ok (.bipush 6, 2) := by decide +kernel
theorem dX6_init_88 : decode cX6_init 88 = .ok (.newarray .int, 2) := by decide +kernel
theorem dX6_init_90 : decode cX6_init 90 = .ok (.putfield 53, 3) := by decide +kernel
theorem dX6_init_93 : decode cX6_init 93 = .ok (.aload_n 0, 1) := by decide +kernel
theorem dX6_init_94 : decode cX6_init 94 = .ok (.iconst 0, 1) := by decide +kernel
theorem dX6_init_95 : decode cX6_init 95 = .ok (.putfield 57, 3) := by decide +kernel
theorem dX6_init_98 : decode cX6_init 98 = .ok (.return_, 1) := by decide +kernel
theorem dX7_init_0 : decode cX7_init 0 = .ok (.aload_n 0, 1) := by decide +kernel
theorem dX7_init_1 : decode cX7_init 1 = .ok (.invokespecial 1, 3) := by decide +kernel
theorem dX7_init_4 : decode cX7_init 4 = .ok (.aload_n 0, 1) := by decide +kernel
theorem dX7_init_5 : decode cX7_init 5 = .ok (.bipush 40, 2) := by decide +kernel
theorem dX7_init_7 : decode cX7_init 7 = .ok (.newarray .int, 2) := by decide +kernel
theorem dX7_init_9 : decode cX7_init 9 = .ok (.putfield 7, 3) := by decide +kernel
theorem dX7_init_12 : decode cX7_init 12 = .ok (.aload_n 0, 1) := by decide +kernel
theorem dX7_init_13 : decode cX7_init 13 = .ok (.bipush 8, 2) := by decide +kernel
theorem dX7_init_15 : decode cX7_init 15 = .ok (.newarray .int, 2) := by decide +kernel
theorem dX7_init_17 : decode cX7_init 17 = .ok (.putfield 13, 3) := by decide +kernel
theorem dX7_init_20 : decode cX7_init 20 = .ok (.aload_n 0, 1) := by decide +kernel
theorem dX7_init_21 : decode cX7_init 21 = .ok (.bipush 8, 2) := by decide +kernel
theorem dX7_init_23 : decode cX7_init 23 = .ok (.newarray .boolean, 2) := by decide +kernel
theorem dX7_init_25 : decode cX7_init 25 = .ok (.putfield 16, 3) := by decide +kernel
theorem dX7_init_28 : decode cX7_init 28 = .ok (.aload_n 0, 1) := by decide +kernel
theorem dX7_init_29 : decode cX7_init 29 = .ok (.sipush 192, 3) := by decide +kernel
theorem dX7_init_32 : decode cX7_init 32 = .ok (.newarray .int, 2) := by decide +kernel
theorem dX7_init_34 : decode cX7_init 34 = .ok (.putfield 20, 3) := by decide +kernel
theorem dX7_init_37 : decode cX7_init 37 = .ok (.aload_n 0, 1) := by decide +kernel
theorem dX7_init_38 : decode cX7_init 38 = .ok (.bipush 16, 2) := by decide +kernel
theorem dX7_init_40 : decode cX7_init 40 = .ok (.newarray .int, 2) := by decide +kernel
theorem dX7_init_42 : decode cX7_init 42 = .ok (.putfield 23, 3) := by decide +kernel
theorem dX7_init_45 : decode cX7_init 45 = .ok (.aload_n 0, 1) := by decide +kernel
theorem dX7_init_46 : decode cX7_init 46 = .ok (.bipush 40, 2) := by decide +kernel
theorem dX7_init_48 : decode cX7_init 48 = .ok (.newarray .int, 2) := by decide +kernel
theorem dX7_init_50 : decode cX7_init 50 = .ok (.putfield 26, 3) := by decide +kernel
theorem dX7_init_53 : decode cX7_init 53 = .ok (.aload_n 0, 1) := by decide +kernel
theorem dX7_init_54 : decode cX7_init 54 = .ok (.bipush 40, 2) := by decide +kernel
theorem dX7_init_56 : decode cX7_init 56 = .ok (.newarray .int, 2) := by decide +kernel
theorem dX7_init_58 : decode cX7_init 58 = .ok (.putfield 29, 3) := by decide +kernel
theorem dX7_init_61 : decode cX7_init 61 = .ok (.aload_n 0, 1) := by decide +kernel
theorem dX7_init_62 : decode cX7_init 62 = .ok (.sipush 240, 3) := by decide +kernel
theorem dX7_init_65 : decode cX7_init 65 = .ok (.newarray .int, 2) := by decide +kernel
theorem dX7_init_67 : decode cX7_init 67 = .ok (.putfield 32, 3) := by decide +kernel
theorem dX7_init_70 : decode cX7_init 70 = .ok (.aload_n 0, 1) := by decide +kernel
theorem dX7_init_71 : decode cX7_init 71 = .ok (.sipush 1920, 3) := by decide +kernel
theorem dX7_init_74 : decode cX7_init 74 = .ok (.newarray .int, 2) := by decide +kernel
theorem dX7_init_76 : decode cX7_init 76 = .ok (.putfield 35, 3) := by decide +kernel
theorem dX7_init_79 : decode cX7_init 79 = .ok (.aload_n 0, 1) := by decide +kernel
theorem dX7_init_80 : decode cX7_init 80 = .ok (.sipush 160, 3) := by decide +kernel
theorem dX7_init_83 : decode cX7_init 83 = .ok (.newarray .int, 2) := by decide +kernel
theorem dX7_init_85 : decode cX7_init 85 = .ok (.putfield 38, 3) := by decide +kernel
theorem dX7_init_88 : decode cX7_init 88 = .ok (.aload_n 0, 1) := by decide +kernel
theorem dX7_init_89 : decode cX7_init 89 = .ok (.bipush 6, 2) := by decide +kernel
theorem dX7_init_91 : decode cX7_init 91 = .ok (.newarray .int, 2) := by decide +kernel
theorem dX7_init_93 : decode cX7_init 93 = .ok (.putfield 41, 3) := by decide +kernel
theorem dX7_init_96 : decode cX7_init 96 = .ok (.aload_n 0, 1) := by decide +kernel
theorem dX7_init_97 : decode cX7_init 97 = .ok (.bipush 6, 2) := by decide +kernel
theorem dX7_init_99 : decode cX7_init 99 = .ok (.newarray .int, 2) := by decide +kernel
theorem dX7_init_101 : decode cX7_init 101 = .ok (.putfield 44, 3) := by decide +kernel
theorem dX7_init_104 : decode cX7_init 104 = .ok (.aload_n 0, 1) := by decide +kernel
theorem dX7_init_105 : decode cX7_init 105 = .ok (.bipush 6, 2) := by decide +kernel
theorem dX7_init_107 : decode cX7_init 107 = .ok (.newarray .int, 2) := by decide +kernel
theorem dX7_init_109 : decode cX7_init 109 = .ok (.putfield 47, 3) := by decide +kernel
theorem dX7_init_112 : decode cX7_init 112 = .ok (.aload_n 0, 1) := by decide +kernel
theorem dX7_init_113 : decode cX7_init 113 = .ok (.bipush 36, 2) := by decide +kernel
theorem dX7_init_115 : decode cX7_init 115 = .ok (.newarray .int, 2) := by decide +kernel
theorem dX7_init_117 : decode cX7_init 117 = .ok (.putfield 50, 3) := by decide +kernel
theorem dX7_init_120 : decode cX7_init 120 = .ok (.aload_n 0, 1) := by decide +kernel
theorem dX7_init_121 : decode cX7_init 121 = .ok (.bipush 60, 2) := by decide +kernel
theorem dX7_init_123 : decode cX7_init 123 = .ok (.newarray .int, 2) := by decide +kernel
theorem dX7_init_125 : decode cX7_init 125 = .ok (.putfield 53, 3) := by decide +kernel
theorem dX7_init_128 : decode cX7_init 128 = .ok (.aload_n 0, 1) := by decide +kernel
theorem dX7_init_129 : decode cX7_init 129 = .ok (.bipush 60, 2) := by decide +kernel
theorem dX7_init_131 : decode cX7_init 131 = .ok (.newarray .int, 2) := by decide +kernel
theorem dX7_init_133 : decode cX7_init 133 = .ok (.putfield 56, 3) := by decide +kernel
theorem dX7_init_136 : decode cX7_init 136 = .ok (.aload_n 0, 1) := by decide +kernel
theorem dX7_init_137 : decode cX7_init 137 = .ok (.bipush 61, 2) := by decide +kernel
theorem dX7_init_139 : decode cX7_init 139 = .ok (.newarray .int, 2) := by decide +kernel
theorem dX7_init_141 : decode cX7_init 141 = .ok (.putfield 59, 3) := by decide +kernel
theorem dX7_init_144 : decode cX7_init 144 = .ok (.aload_n 0, 1) := by decide +kernel
theorem dX7_init_145 : decode cX7_init 145 = .ok (.bipush 61, 2) := by decide +kernel
theorem dX7_init_147 : decode cX7_init 147 = .ok (.newarray .int, 2) := by decide +kernel
theorem dX7_init_149 : decode cX7_init 149 = .ok (.putfield 62, 3) := by decide +kernel
theorem dX7_init_152 : decode cX7_init 152 = .ok (.aload_n 0, 1) := by decide +kernel
theorem dX7_init_153 : decode cX7_init 153 = .ok (.bipush 61, 2) := by decide +kernel
theorem dX7_init_155 : decode cX7_init 155 = .ok (.newarray .int, 2) := by decide +kernel
theorem dX7_init_157 : decode cX7_init 157 = .ok (.putfield 65, 3) := by decide +kernel
theorem dX7_init_160 : decode cX7_init 160 = .ok (.aload_n 0, 1) := by decide +kernel
theorem dX7_init_161 : decode cX7_init 161 = .ok (.bipush 60, 2) := by decide +kernel
theorem dX7_init_163 : decode cX7_init 163 = .ok (.newarray .int, 2) := by decide +kernel
theorem dX7_init_165 : decode cX7_init 165 = .ok (.putfield 68, 3) := by decide +kernel
theorem dX7_init_168 : decode cX7_init 168 = .ok (.aload_n 0, 1) := by decide +kernel
theorem dX7_init_169 : decode cX7_init 169 = .ok (.bipush 60, 2) := by decide +kernel
theorem dX7_init_171 : decode cX7_init 171 = .ok (.newarray .int, 2) := by decide +kernel
theorem dX7_init_173 : decode cX7_init 173 = .ok (.putfield 71, 3) := by decide +kernel
theorem dX7_init_176 : decode cX7_init 176 = .ok (.aload_n 0, 1) := by decide +kernel
theorem dX7_init_177 : decode cX7_init 177 = .ok (.bipush 40, 2) := by decide +kernel
theorem dX7_init_179 : decode cX7_init 179 = .ok (.newarray .boolean, 2) := by decide +kernel
theorem dX7_init_181 : decode cX7_init 181 = .ok (.putfield 74, 3) := by decide +kernel
theorem dX7_init_184 : decode cX7_init 184 = .ok (.return_, 1) := by decide +kernel
abbrev z0 : Value := .int (Int32.ofInt 0)
abbrev m1 : Value := .int (Int32.ofInt (-1))
abbrev lz : Value := .long (Int64.ofInt 0)
abbrev ar (c : ClassId) (n : Nat) : va_E := .inl (c, n, .inl (fun _ => Int32.ofInt 0))
def PC (D : va_G) (cI cB : ClassId) (w : va_W) (sz : Nat) (av : List Value) : Array Value → State → Prop := va_Pc av (fun U => U.heap.size = sz ∧ va_P D vwCl w U.heap ∧ va_K D vwCl [(cI, .int), (cB, .boolean)] U ∧ (∀ w ∈ nTbl, va_Nw w U) ∧ va_D (fun _ => True) w)
theorem PC_blind (D : va_G) (cI cB : ClassId) (w : va_W) (sz : Nat) (av : List Value) : FrameBlind (PC D cI cB w sz av) := by
  intro a U g mk h
  obtain ⟨e1, r1, r2, r3, r4, r5⟩ := h
  exact ⟨e1, r1, r2, va_K.moved (u := U) (U := U.calling g mk a) (Vm.Alike.refl U.vm) r3, fun w hw => va_Nw.same (by
    have := (List.mem_filter.mp hw).2
    cases w <;> first | rfl | (simp [isNest] at this)) (by rfl) (r4 w hw), r5⟩
theorem PC_pre {D : va_G} {cI cB : ClassId} {w : va_W} {av : List Value} {A : Nat → Prop} {s : State} {H : Heap} (hK : va_K D vwCl [(cI, .int), (cB, .boolean)] s) (hN : ∀ w ∈ nTbl, va_Nw w s) (hP : va_P D vwCl w H) (hD : va_D A w) : PreS s H (PC D cI cB w H.size av) av :=
  ⟨PC_blind _ _ _ _ _ _, fun U hU hW => ⟨rfl, by rw [hU], by rw [hU]; exact hP, va_K.moved hW.alike hK, nTbl_warm hW hN, hD.weaken (fun _ _ _ _ => trivial)⟩⟩
theorem oi_inst : Cond.instanceMethod objectInit ∈ gTbl := gm 94 (by decide +kernel) rfl
theorem oi_code : Cond.code objectInit ⟨#[0xb1]⟩ 1 none ∈ gTbl := gm 95 (by decide +kernel) rfl
theorem ac_int : Cond.arrayClass .int ∈ gTbl := gm 111 (by decide +kernel) rfl
theorem ac_bool : Cond.arrayClass .boolean ∈ gTbl := gm 192 (by decide +kernel) rfl
section CT
variable {p : Program} {l : Launch} {e : Env} {R : Room} {s : State} {m : MethodId} {args : Array Value} {below : List Frame} {meth : Method} {c : Code} {H : Heap} {locs : List Loc} {cells slots : Nat} {Q : State → Prop}
variable {cc : ByteArray} {pc : Nat} {ls : Array Slot} {rest : List Value} {D : va_G} {A : Nat → Prop} {ws : va_W} {H0 : Heap} {cI cB : ClassId}
theorem vnew_i (hexec : p.tables.exec = Jvm.exec) (hb : c.code = cc) (hts : ∀ w ∈ gTbl, w.before args s = true) (hK : va_K D vwCl [(cI, .int), (cB, .boolean)] s) (hP : va_P D vwCl ws H) (hD : va_D A ws) (hS : va_S A H0 H locs) (hA : ∀ q, H0.size ≤ q → A q) {n : Int32} {N : Nat} (hn : ¬ n < 0) (hN : n.toNatClampNeg = N) (hby : N * componentBytes .int ≤ 536870912) (hcells : cells + 1 ≤ R.cells) (hslots : slots + N ≤ R.slots) (hdg : decode cc pc = .ok (.newarray .int, 2))
    (kk : ∀ (q : Nat) (H1 : Heap), va_P D vwCl (ws ++ [(q, ar cI N)]) H1 → va_D A (ws ++ [(q, ar cI N)]) → va_S A H0 H1 locs → W p l e R s m args below meth c H1 locs (cells + 1) (slots + N) Q (F0 m (pc + 2) ls (.ref q :: rest))) : W p l e R s m args below meth c H locs cells slots Q (F0 m pc ls (.int n :: rest)) := by
  refine va_newa (atype := .int) (ty := .int) (a0 := (N, .inl (fun _ => Int32.ofInt 0))) hexec hb (hts _ ac_int) rfl hK hP hD hS hA (fun cA => ?_) hn hN hby hcells hslots hdg (fun q cA H1 hK1 hP1 hD1 hS1 => ?_)
  · show arrV cA N (fun _ => Value.int (Int32.ofInt 0)) = arrV cA N (fun _ => Value.int 0)
    rw [i32_0]
  · have h1 : cA = cI := Option.some.inj ((va_nm_int (hK1.2 2 _ rfl).2).symm.trans (va_nm_int (hK.2 0 _ rfl).2))
    rw [h1] at hP1 hD1
    exact kk q H1 hP1 hD1 hS1
theorem vnew_z (hexec : p.tables.exec = Jvm.exec) (hb : c.code = cc) (hts : ∀ w ∈ gTbl, w.before args s = true) (hK : va_K D vwCl [(cI, .int), (cB, .boolean)] s) (hP : va_P D vwCl ws H) (hD : va_D A ws) (hS : va_S A H0 H locs) (hA : ∀ q, H0.size ≤ q → A q) {n : Int32} {N : Nat} (hn : ¬ n < 0) (hN : n.toNatClampNeg = N) (hby : N * componentBytes .boolean ≤ 536870912) (hcells : cells + 1 ≤ R.cells) (hslots : slots + N ≤ R.slots) (hdg : decode cc pc = .ok (.newarray .boolean, 2))
    (kk : ∀ (q : Nat) (H1 : Heap), va_P D vwCl (ws ++ [(q, ar cB N)]) H1 → va_D A (ws ++ [(q, ar cB N)]) → va_S A H0 H1 locs → W p l e R s m args below meth c H1 locs (cells + 1) (slots + N) Q (F0 m (pc + 2) ls (.ref q :: rest))) : W p l e R s m args below meth c H locs cells slots Q (F0 m pc ls (.int n :: rest)) := by
  refine va_newa (atype := .boolean) (ty := .boolean) (a0 := (N, .inl (fun _ => Int32.ofInt 0))) hexec hb (hts _ ac_bool) rfl hK hP hD hS hA (fun cA => ?_) hn hN hby hcells hslots hdg (fun q cA H1 hK1 hP1 hD1 hS1 => ?_)
  · show arrV cA N (fun _ => Value.int (Int32.ofInt 0)) = arrV cA N (fun _ => Value.int 0)
    rw [i32_0]
  · have h1 : cA = cB := Option.some.inj ((va_nm_boolean (hK1.2 2 _ rfl).2).symm.trans (va_nm_boolean (hK.2 1 _ rfl).2))
    rw [h1] at hP1 hD1
    exact kk q H1 hP1 hD1 hS1
end CT
set_option maxRecDepth 100000 in
set_option maxHeartbeats 4000000 in
theorem ct_X1 (l : Launch) (D : va_G) (cI cB : ClassId) (h0  sz : Nat) : Met l mX1_init.1 (cdw mX1_init :: gTbl) ({ frames := 1, cells := 1, slots := 40, locals := 12 }) (PC D cI cB [(h0, .inr (1, [.null, z0]))] sz [.ref h0]) (va_Qv (fun _ : Unit => True) (fun _ t => ∃ q7 : Nat, va_P D vwCl [(h0, .inr (1, [.ref q7, z0])), (q7, ar cI 40)] t.heap ∧ va_D (va_A [(h0, .inr (1, [.null, z0]))] sz) [(h0, .inr (1, [.ref q7, z0])), (q7, ar cI 40)]) (va_A [(h0, .inr (1, [.null, z0]))] sz)) 1 40 (va_A [(h0, .inr (1, [.null, z0]))] sz) := by
  refine Met.ofW (cc := cX1_init) (maxL := 1) (ret := none) (by decide +kernel) rfl ?_
  intro p e s m args below meth c s₁ B hml hv
  obtain ⟨rfl, hsz, hP, hK, hN, hD0⟩ := hv
  have hx := B.exec
  have hb := B.bytes
  have hr := B.returns
  have hts0 := atoms_spec (ws := cdw mX1_init :: gTbl) B.pre
  have hts : ∀ w ∈ gTbl, w.before _ s = true := fun w hw => hts0 w (List.mem_cons_of_mem _ hw)
  have hown : s.vm.findClass RX1 = some m.cls := findClass_of_methodNamed B.named
  have hlocks := B.notSynchronized
  have hin : meth.name = "<init>" := (name_of_methodNamed B.named B.method).1
  subst hsz
  have hD := hD0.self (sz := s.heap.size)
  generalize hAe : va_A [(h0, .inr (1, [.null, z0]))] s.heap.size = A at hD ⊢
  have hA : ∀ q : Nat, s.heap.size ≤ q → A q := fun q h => by rw [← hAe]; exact Or.inr h
  have hS : va_S A s.heap s.heap [] := va_S.rf
  have hl := lv_entry ([.ref h0]) (n := 1) (Nat.le_of_ble_eq_true rfl)
  rw [lg_entry_eq]
  generalize (lg_sl ([.ref h0]) ++ List.replicate (1 - (lg_sl ([.ref h0])).length) Slot.unset).toArray = ls at hl ⊢
  have hl : lv_has ls 1 [(0, .ref h0)] := hl
  refine lv_aload_n hx hb dX1_init_0 rfl (lv_at hl 0 rfl) ?_
  refine W.objInit hx hb hown (hts _ (gm 101 (by decide +kernel) rfl)) (hts _ oi_inst) (hts _ oi_code) rfl (by rw [hml]; exact hl.1) rfl dX1_init_1 (Nat.le_of_ble_eq_true rfl) (Nat.le_of_ble_eq_true rfl) ?_
  refine W.eq (g2 := F0 m 4 ls []) rfl ?_
  refine lv_aload_n hx hb dX1_init_4 rfl (lv_at hl 0 rfl) ?_
  refine lv_bipush (v := Int32.ofInt 40) hx hb dX1_init_5 (by decide) ?_
  refine vnew_i (N := 40) hx hb hts hK hP hD hS hA (by decide) (by decide) (Nat.le_of_ble_eq_true rfl) (Nat.le_of_ble_eq_true rfl) (Nat.le_of_ble_eq_true rfl) dX1_init_7 (fun q7 H hP hD hS => ?_)
  have hP : va_P D vwCl [(h0, .inr (1, [.null, z0])), (q7, ar cI 40)] H := hP
  have hD : va_D A [(h0, .inr (1, [.null, z0])), (q7, ar cI 40)] := hD
  refine W.widen (k := 1) (n := 40) (Nat.le_of_ble_eq_true rfl) (Nat.le_of_ble_eq_true rfl) ?_
  refine va_putF (D := D) (ci := 1) (v := .ref q7) (ty := tyX1 0) (C := RX1) (T := TX1) (N := 2) hx hb hts layX1 tyX1 tyX1_ok nmX1 hown hK hP hD hS 0 rfl rfl 0 (by decide) (hts _ (gm 102 (by decide +kernel) rfl)) (fun _ h9 => h9) rfl hin rfl (tyX1_ok 0 (by decide)) rfl rfl (Nat.le_of_ble_eq_true rfl) dX1_init_9 (fun H locs hP hD hS => ?_)
  have hP : va_P D vwCl [(h0, .inr (1, [.ref q7, z0])), (q7, ar cI 40)] H := hP
  have hD : va_D A [(h0, .inr (1, [.ref q7, z0])), (q7, ar cI 40)] := hD
  refine lv_aload_n hx hb dX1_init_12 rfl (lv_at hl 0 rfl) ?_
  refine lv_iconst (v := Int32.ofInt 0) hx hb dX1_init_13 (by decide) ?_
  refine va_put (D := D) (ci := 1) (v := .int (Int32.ofInt 0)) (ty := tyX1 1) (C := RX1) (T := TX1) (N := 2) hx hb hts layX1 tyX1 tyX1_ok nmX1 hown hK hP hD hS 0 rfl rfl 1 (by decide) (hts _ (gm 103 (by decide +kernel) rfl)) (fun _ h9 => h9) rfl (tyX1_ok 1 (by decide)) rfl rfl (Nat.le_of_ble_eq_true rfl) dX1_init_14 (fun H locs hP hD hS => ?_)
  have hP : va_P D vwCl [(h0, .inr (1, [.ref q7, z0])), (q7, ar cI 40)] H := hP
  have hD : va_D A [(h0, .inr (1, [.ref q7, z0])), (q7, ar cI 40)] := hD
  exact W.vret hx hb hr (fun t ht hW => ⟨⟨(), rfl, trivial, q7, by rw [ht]; exact hP, hD⟩, hS.F ht⟩) hS.2.2 dX1_init_17
set_option maxRecDepth 100000 in
set_option maxHeartbeats 4000000 in
theorem ct_X2 (l : Launch) (D : va_G) (cI cB : ClassId) (h0  sz : Nat) : Met l mX2_init.1 (cdw mX2_init :: gTbl) ({ frames := 1, cells := 3, slots := 96, locals := 12 }) (PC D cI cB [(h0, .inr (2, [.null, .null, .null, z0, z0, z0, z0, z0, z0]))] sz [.ref h0]) (va_Qv (fun _ : Unit => True) (fun _ t => ∃ q7 q15 q23 : Nat, va_P D vwCl [(h0, .inr (2, [.ref q7, .ref q15, .ref q23, z0, z0, z0, z0, z0, z0])), (q7, ar cI 12), (q15, ar cI 12), (q23, ar cI 72)] t.heap ∧ va_D (va_A [(h0, .inr (2, [.null, .null, .null, z0, z0, z0, z0, z0, z0]))] sz) [(h0, .inr (2, [.ref q7, .ref q15, .ref q23, z0, z0, z0, z0, z0, z0])), (q7, ar cI 12), (q15, ar cI 12), (q23, ar cI 72)]) (va_A [(h0, .inr (2, [.null, .null, .null, z0, z0, z0, z0, z0, z0]))] sz)) 3 96 (va_A [(h0, .inr (2, [.null, .null, .null, z0, z0, z0, z0, z0, z0]))] sz) := by
  refine Met.ofW (cc := cX2_init) (maxL := 1) (ret := none) (by decide +kernel) rfl ?_
  intro p e s m args below meth c s₁ B hml hv
  obtain ⟨rfl, hsz, hP, hK, hN, hD0⟩ := hv
  have hx := B.exec
  have hb := B.bytes
  have hr := B.returns
  have hts0 := atoms_spec (ws := cdw mX2_init :: gTbl) B.pre
  have hts : ∀ w ∈ gTbl, w.before _ s = true := fun w hw => hts0 w (List.mem_cons_of_mem _ hw)
  have hown : s.vm.findClass RX2 = some m.cls := findClass_of_methodNamed B.named
  have hlocks := B.notSynchronized
  have hin : meth.name = "<init>" := (name_of_methodNamed B.named B.method).1
  subst hsz
  have hD := hD0.self (sz := s.heap.size)
  generalize hAe : va_A [(h0, .inr (2, [.null, .null, .null, z0, z0, z0, z0, z0, z0]))] s.heap.size = A at hD ⊢
  have hA : ∀ q : Nat, s.heap.size ≤ q → A q := fun q h => by rw [← hAe]; exact Or.inr h
  have hS : va_S A s.heap s.heap [] := va_S.rf
  have hl := lv_entry ([.ref h0]) (n := 1) (Nat.le_of_ble_eq_true rfl)
  rw [lg_entry_eq]
  generalize (lg_sl ([.ref h0]) ++ List.replicate (1 - (lg_sl ([.ref h0])).length) Slot.unset).toArray = ls at hl ⊢
  have hl : lv_has ls 1 [(0, .ref h0)] := hl
  refine lv_aload_n hx hb dX2_init_0 rfl (lv_at hl 0 rfl) ?_
  refine W.objInit hx hb hown (hts _ (gm 117 (by decide +kernel) rfl)) (hts _ oi_inst) (hts _ oi_code) rfl (by rw [hml]; exact hl.1) rfl dX2_init_1 (Nat.le_of_ble_eq_true rfl) (Nat.le_of_ble_eq_true rfl) ?_
  refine W.eq (g2 := F0 m 4 ls []) rfl ?_
  refine lv_aload_n hx hb dX2_init_4 rfl (lv_at hl 0 rfl) ?_
  refine lv_bipush (v := Int32.ofInt 12) hx hb dX2_init_5 (by decide) ?_
  refine vnew_i (N := 12) hx hb hts hK hP hD hS hA (by decide) (by decide) (Nat.le_of_ble_eq_true rfl) (Nat.le_of_ble_eq_true rfl) (Nat.le_of_ble_eq_true rfl) dX2_init_7 (fun q7 H hP hD hS => ?_)
  have hP : va_P D vwCl [(h0, .inr (2, [.null, .null, .null, z0, z0, z0, z0, z0, z0])), (q7, ar cI 12)] H := hP
  have hD : va_D A [(h0, .inr (2, [.null, .null, .null, z0, z0, z0, z0, z0, z0])), (q7, ar cI 12)] := hD
  refine W.widen (k := 1) (n := 12) (Nat.le_of_ble_eq_true rfl) (Nat.le_of_ble_eq_true rfl) ?_
  refine va_putF (D := D) (ci := 2) (v := .ref q7) (ty := tyX2 0) (C := RX2) (T := TX2) (N := 9) hx hb hts layX2 tyX2 tyX2_ok nmX2 hown hK hP hD hS 0 rfl rfl 0 (by decide) (hts _ (gm 118 (by decide +kernel) rfl)) (fun _ h9 => h9) rfl hin rfl (tyX2_ok 0 (by decide)) rfl rfl (Nat.le_of_ble_eq_true rfl) dX2_init_9 (fun H locs hP hD hS => ?_)
  have hP : va_P D vwCl [(h0, .inr (2, [.ref q7, .null, .null, z0, z0, z0, z0, z0, z0])), (q7, ar cI 12)] H := hP
  have hD : va_D A [(h0, .inr (2, [.ref q7, .null, .null, z0, z0, z0, z0, z0, z0])), (q7, ar cI 12)] := hD
  refine lv_aload_n hx hb dX2_init_12 rfl (lv_at hl 0 rfl) ?_
  refine lv_bipush (v := Int32.ofInt 12) hx hb dX2_init_13 (by decide) ?_
  refine vnew_i (N := 12) hx hb hts hK hP hD hS hA (by decide) (by decide) (Nat.le_of_ble_eq_true rfl) (Nat.le_of_ble_eq_true rfl) (Nat.le_of_ble_eq_true rfl) dX2_init_15 (fun q15 H hP hD hS => ?_)
  have hP : va_P D vwCl [(h0, .inr (2, [.ref q7, .null, .null, z0, z0, z0, z0, z0, z0])), (q7, ar cI 12), (q15, ar cI 12)] H := hP
  have hD : va_D A [(h0, .inr (2, [.ref q7, .null, .null, z0, z0, z0, z0, z0, z0])), (q7, ar cI 12), (q15, ar cI 12)] := hD
  refine W.widen (k := 2) (n := 24) (Nat.le_of_ble_eq_true rfl) (Nat.le_of_ble_eq_true rfl) ?_
  refine va_putF (D := D) (ci := 2) (v := .ref q15) (ty := tyX2 1) (C := RX2) (T := TX2) (N := 9) hx hb hts layX2 tyX2 tyX2_ok nmX2 hown hK hP hD hS 0 rfl rfl 1 (by decide) (hts _ (gm 119 (by decide +kernel) rfl)) (fun _ h9 => h9) rfl hin rfl (tyX2_ok 1 (by decide)) rfl rfl (Nat.le_of_ble_eq_true rfl) dX2_init_17 (fun H locs hP hD hS => ?_)
  have hP : va_P D vwCl [(h0, .inr (2, [.ref q7, .ref q15, .null, z0, z0, z0, z0, z0, z0])), (q7, ar cI 12), (q15, ar cI 12)] H := hP
  have hD : va_D A [(h0, .inr (2, [.ref q7, .ref q15, .null, z0, z0, z0, z0, z0, z0])), (q7, ar cI 12), (q15, ar cI 12)] := hD
  refine lv_aload_n hx hb dX2_init_20 rfl (lv_at hl 0 rfl) ?_
  refine lv_bipush (v := Int32.ofInt 72) hx hb dX2_init_21 (by decide) ?_
  refine vnew_i (N := 72) hx hb hts hK hP hD hS hA (by decide) (by decide) (Nat.le_of_ble_eq_true rfl) (Nat.le_of_ble_eq_true rfl) (Nat.le_of_ble_eq_true rfl) dX2_init_23 (fun q23 H hP hD hS => ?_)
  have hP : va_P D vwCl [(h0, .inr (2, [.ref q7, .ref q15, .null, z0, z0, z0, z0, z0, z0])), (q7, ar cI 12), (q15, ar cI 12), (q23, ar cI 72)] H := hP
  have hD : va_D A [(h0, .inr (2, [.ref q7, .ref q15, .null, z0, z0, z0, z0, z0, z0])), (q7, ar cI 12), (q15, ar cI 12), (q23, ar cI 72)] := hD
  refine W.widen (k := 3) (n := 96) (Nat.le_of_ble_eq_true rfl) (Nat.le_of_ble_eq_true rfl) ?_
  refine va_putF (D := D) (ci := 2) (v := .ref q23) (ty := tyX2 2) (C := RX2) (T := TX2) (N := 9) hx hb hts layX2 tyX2 tyX2_ok nmX2 hown hK hP hD hS 0 rfl rfl 2 (by decide) (hts _ (gm 120 (by decide +kernel) rfl)) (fun _ h9 => h9) rfl hin rfl (tyX2_ok 2 (by decide)) rfl rfl (Nat.le_of_ble_eq_true rfl) dX2_init_25 (fun H locs hP hD hS => ?_)
  have hP : va_P D vwCl [(h0, .inr (2, [.ref q7, .ref q15, .ref q23, z0, z0, z0, z0, z0, z0])), (q7, ar cI 12), (q15, ar cI 12), (q23, ar cI 72)] H := hP
  have hD : va_D A [(h0, .inr (2, [.ref q7, .ref q15, .ref q23, z0, z0, z0, z0, z0, z0])), (q7, ar cI 12), (q15, ar cI 12), (q23, ar cI 72)] := hD
  exact W.vret hx hb hr (fun t ht hW => ⟨⟨(), rfl, trivial, q7, q15, q23, by rw [ht]; exact hP, hD⟩, hS.F ht⟩) hS.2.2 dX2_init_28
set_option maxRecDepth 100000 in
set_option maxHeartbeats 4000000 in
theorem ct_X5 (l : Launch) (D : va_G) (cI cB : ClassId) (h0  sz : Nat) : Met l mX5_init.1 (cdw mX5_init :: gTbl) ({ frames := 1, cells := 7, slots := 408, locals := 12 }) (PC D cI cB [(h0, .inr (5, [.null, .null, .null, .null, .null, .null, .null, z0, z0, z0]))] sz [.ref h0]) (va_Qv (fun _ : Unit => True) (fun _ t => ∃ q7 q15 q23 q31 q39 q47 q56 : Nat, va_P D vwCl [(h0, .inr (5, [.ref q7, .ref q15, .ref q23, .ref q31, .ref q39, .ref q47, .ref q56, z0, z0, z0])), (q7, ar cI 8), (q15, ar cB 8), (q23, ar cI 96), (q31, ar cI 8), (q39, ar cI 8), (q47, ar cI 40), (q56, ar cI 240)] t.heap ∧ va_D (va_A [(h0, .inr (5, [.null, .null, .null, .null, .null, .null, .null, z0, z0, z0]))] sz) [(h0, .inr (5, [.ref q7, .ref q15, .ref q23, .ref q31, .ref q39, .ref q47, .ref q56, z0, z0, z0])), (q7, ar cI 8), (q15, ar cB 8), (q23, ar cI 96), (q31, ar cI 8), (q39, ar cI 8), (q47, ar cI 40), (q56, ar cI 240)]) (va_A [(h0, .inr (5, [.null, .null, .null, .null, .null, .null, .null, z0, z0, z0]))] sz)) 7 408 (va_A [(h0, .inr (5, [.null, .null, .null, .null, .null, .null, .null, z0, z0, z0]))] sz) := by
  refine Met.ofW (cc := cX5_init) (maxL := 1) (ret := none) (by decide +kernel) rfl ?_
  intro p e s m args below meth c s₁ B hml hv
  obtain ⟨rfl, hsz, hP, hK, hN, hD0⟩ := hv
  have hx := B.exec
  have hb := B.bytes
  have hr := B.returns
  have hts0 := atoms_spec (ws := cdw mX5_init :: gTbl) B.pre
  have hts : ∀ w ∈ gTbl, w.before _ s = true := fun w hw => hts0 w (List.mem_cons_of_mem _ hw)
  have hown : s.vm.findClass RX5 = some m.cls := findClass_of_methodNamed B.named
  have hlocks := B.notSynchronized
  have hin : meth.name = "<init>" := (name_of_methodNamed B.named B.method).1
  subst hsz
  have hD := hD0.self (sz := s.heap.size)
  generalize hAe : va_A [(h0, .inr (5, [.null, .null, .null, .null, .null, .null, .null, z0, z0, z0]))] s.heap.size = A at hD ⊢
  have hA : ∀ q : Nat, s.heap.size ≤ q → A q := fun q h => by rw [← hAe]; exact Or.inr h
  have hS : va_S A s.heap s.heap [] := va_S.rf
  have hl := lv_entry ([.ref h0]) (n := 1) (Nat.le_of_ble_eq_true rfl)
  rw [lg_entry_eq]
  generalize (lg_sl ([.ref h0]) ++ List.replicate (1 - (lg_sl ([.ref h0])).length) Slot.unset).toArray = ls at hl ⊢
  have hl : lv_has ls 1 [(0, .ref h0)] := hl
  refine lv_aload_n hx hb dX5_init_0 rfl (lv_at hl 0 rfl) ?_
  refine W.objInit hx hb hown (hts _ (gm 154 (by decide +kernel) rfl)) (hts _ oi_inst) (hts _ oi_code) rfl (by rw [hml]; exact hl.1) rfl dX5_init_1 (Nat.le_of_ble_eq_true rfl) (Nat.le_of_ble_eq_true rfl) ?_
  refine W.eq (g2 := F0 m 4 ls []) rfl ?_
  refine lv_aload_n hx hb dX5_init_4 rfl (lv_at hl 0 rfl) ?_
  refine lv_bipush (v := Int32.ofInt 8) hx hb dX5_init_5 (by decide) ?_
  refine vnew_i (N := 8) hx hb hts hK hP hD hS hA (by decide) (by decide) (Nat.le_of_ble_eq_true rfl) (Nat.le_of_ble_eq_true rfl) (Nat.le_of_ble_eq_true rfl) dX5_init_7 (fun q7 H hP hD hS => ?_)
  have hP : va_P D vwCl [(h0, .inr (5, [.null, .null, .null, .null, .null, .null, .null, z0, z0, z0])), (q7, ar cI 8)] H := hP
  have hD : va_D A [(h0, .inr (5, [.null, .null, .null, .null, .null, .null, .null, z0, z0, z0])), (q7, ar cI 8)] := hD
  refine W.widen (k := 1) (n := 8) (Nat.le_of_ble_eq_true rfl) (Nat.le_of_ble_eq_true rfl) ?_
  refine va_putF (D := D) (ci := 5) (v := .ref q7) (ty := tyX5 0) (C := RX5) (T := TX5) (N := 10) hx hb hts layX5 tyX5 tyX5_ok nmX5 hown hK hP hD hS 0 rfl rfl 0 (by decide) (hts _ (gm 155 (by decide +kernel) rfl)) (fun _ h9 => h9) rfl hin rfl (tyX5_ok 0 (by decide)) rfl rfl (Nat.le_of_ble_eq_true rfl) dX5_init_9 (fun H locs hP hD hS => ?_)
  have hP : va_P D vwCl [(h0, .inr (5, [.ref q7, .null, .null, .null, .null, .null, .null, z0, z0, z0])), (q7, ar cI 8)] H := hP
  have hD : va_D A [(h0, .inr (5, [.ref q7, .null, .null, .null, .null, .null, .null, z0, z0, z0])), (q7, ar cI 8)] := hD
  refine lv_aload_n hx hb dX5_init_12 rfl (lv_at hl 0 rfl) ?_
  refine lv_bipush (v := Int32.ofInt 8) hx hb dX5_init_13 (by decide) ?_
  refine vnew_z (N := 8) hx hb hts hK hP hD hS hA (by decide) (by decide) (Nat.le_of_ble_eq_true rfl) (Nat.le_of_ble_eq_true rfl) (Nat.le_of_ble_eq_true rfl) dX5_init_15 (fun q15 H hP hD hS => ?_)
  have hP : va_P D vwCl [(h0, .inr (5, [.ref q7, .null, .null, .null, .null, .null, .null, z0, z0, z0])), (q7, ar cI 8), (q15, ar cB 8)] H := hP
  have hD : va_D A [(h0, .inr (5, [.ref q7, .null, .null, .null, .null, .null, .null, z0, z0, z0])), (q7, ar cI 8), (q15, ar cB 8)] := hD
  refine W.widen (k := 2) (n := 16) (Nat.le_of_ble_eq_true rfl) (Nat.le_of_ble_eq_true rfl) ?_
  refine va_putF (D := D) (ci := 5) (v := .ref q15) (ty := tyX5 1) (C := RX5) (T := TX5) (N := 10) hx hb hts layX5 tyX5 tyX5_ok nmX5 hown hK hP hD hS 0 rfl rfl 1 (by decide) (hts _ (gm 156 (by decide +kernel) rfl)) (fun _ h9 => h9) rfl hin rfl (tyX5_ok 1 (by decide)) rfl rfl (Nat.le_of_ble_eq_true rfl) dX5_init_17 (fun H locs hP hD hS => ?_)
  have hP : va_P D vwCl [(h0, .inr (5, [.ref q7, .ref q15, .null, .null, .null, .null, .null, z0, z0, z0])), (q7, ar cI 8), (q15, ar cB 8)] H := hP
  have hD : va_D A [(h0, .inr (5, [.ref q7, .ref q15, .null, .null, .null, .null, .null, z0, z0, z0])), (q7, ar cI 8), (q15, ar cB 8)] := hD
  refine lv_aload_n hx hb dX5_init_20 rfl (lv_at hl 0 rfl) ?_
  refine lv_bipush (v := Int32.ofInt 96) hx hb dX5_init_21 (by decide) ?_
  refine vnew_i (N := 96) hx hb hts hK hP hD hS hA (by decide) (by decide) (Nat.le_of_ble_eq_true rfl) (Nat.le_of_ble_eq_true rfl) (Nat.le_of_ble_eq_true rfl) dX5_init_23 (fun q23 H hP hD hS => ?_)
  have hP : va_P D vwCl [(h0, .inr (5, [.ref q7, .ref q15, .null, .null, .null, .null, .null, z0, z0, z0])), (q7, ar cI 8), (q15, ar cB 8), (q23, ar cI 96)] H := hP
  have hD : va_D A [(h0, .inr (5, [.ref q7, .ref q15, .null, .null, .null, .null, .null, z0, z0, z0])), (q7, ar cI 8), (q15, ar cB 8), (q23, ar cI 96)] := hD
  refine W.widen (k := 3) (n := 112) (Nat.le_of_ble_eq_true rfl) (Nat.le_of_ble_eq_true rfl) ?_
  refine va_putF (D := D) (ci := 5) (v := .ref q23) (ty := tyX5 2) (C := RX5) (T := TX5) (N := 10) hx hb hts layX5 tyX5 tyX5_ok nmX5 hown hK hP hD hS 0 rfl rfl 2 (by decide) (hts _ (gm 157 (by decide +kernel) rfl)) (fun _ h9 => h9) rfl hin rfl (tyX5_ok 2 (by decide)) rfl rfl (Nat.le_of_ble_eq_true rfl) dX5_init_25 (fun H locs hP hD hS => ?_)
  have hP : va_P D vwCl [(h0, .inr (5, [.ref q7, .ref q15, .ref q23, .null, .null, .null, .null, z0, z0, z0])), (q7, ar cI 8), (q15, ar cB 8), (q23, ar cI 96)] H := hP
  have hD : va_D A [(h0, .inr (5, [.ref q7, .ref q15, .ref q23, .null, .null, .null, .null, z0, z0, z0])), (q7, ar cI 8), (q15, ar cB 8), (q23, ar cI 96)] := hD
  refine lv_aload_n hx hb dX5_init_28 rfl (lv_at hl 0 rfl) ?_
  refine lv_bipush (v := Int32.ofInt 8) hx hb dX5_init_29 (by decide) ?_
  refine vnew_i (N := 8) hx hb hts hK hP hD hS hA (by decide) (by decide) (Nat.le_of_ble_eq_true rfl) (Nat.le_of_ble_eq_true rfl) (Nat.le_of_ble_eq_true rfl) dX5_init_31 (fun q31 H hP hD hS => ?_)
  have hP : va_P D vwCl [(h0, .inr (5, [.ref q7, .ref q15, .ref q23, .null, .null, .null, .null, z0, z0, z0])), (q7, ar cI 8), (q15, ar cB 8), (q23, ar cI 96), (q31, ar cI 8)] H := hP
  have hD : va_D A [(h0, .inr (5, [.ref q7, .ref q15, .ref q23, .null, .null, .null, .null, z0, z0, z0])), (q7, ar cI 8), (q15, ar cB 8), (q23, ar cI 96), (q31, ar cI 8)] := hD
  refine W.widen (k := 4) (n := 120) (Nat.le_of_ble_eq_true rfl) (Nat.le_of_ble_eq_true rfl) ?_
  refine va_putF (D := D) (ci := 5) (v := .ref q31) (ty := tyX5 3) (C := RX5) (T := TX5) (N := 10) hx hb hts layX5 tyX5 tyX5_ok nmX5 hown hK hP hD hS 0 rfl rfl 3 (by decide) (hts _ (gm 158 (by decide +kernel) rfl)) (fun _ h9 => h9) rfl hin rfl (tyX5_ok 3 (by decide)) rfl rfl (Nat.le_of_ble_eq_true rfl) dX5_init_33 (fun H locs hP hD hS => ?_)
  have hP : va_P D vwCl [(h0, .inr (5, [.ref q7, .ref q15, .ref q23, .ref q31, .null, .null, .null, z0, z0, z0])), (q7, ar cI 8), (q15, ar cB 8), (q23, ar cI 96), (q31, ar cI 8)] H := hP
  have hD : va_D A [(h0, .inr (5, [.ref q7, .ref q15, .ref q23, .ref q31, .null, .null, .null, z0, z0, z0])), (q7, ar cI 8), (q15, ar cB 8), (q23, ar cI 96), (q31, ar cI 8)] := hD
  refine lv_aload_n hx hb dX5_init_36 rfl (lv_at hl 0 rfl) ?_
  refine lv_bipush (v := Int32.ofInt 8) hx hb dX5_init_37 (by decide) ?_
  refine vnew_i (N := 8) hx hb hts hK hP hD hS hA (by decide) (by decide) (Nat.le_of_ble_eq_true rfl) (Nat.le_of_ble_eq_true rfl) (Nat.le_of_ble_eq_true rfl) dX5_init_39 (fun q39 H hP hD hS => ?_)
  have hP : va_P D vwCl [(h0, .inr (5, [.ref q7, .ref q15, .ref q23, .ref q31, .null, .null, .null, z0, z0, z0])), (q7, ar cI 8), (q15, ar cB 8), (q23, ar cI 96), (q31, ar cI 8), (q39, ar cI 8)] H := hP
  have hD : va_D A [(h0, .inr (5, [.ref q7, .ref q15, .ref q23, .ref q31, .null, .null, .null, z0, z0, z0])), (q7, ar cI 8), (q15, ar cB 8), (q23, ar cI 96), (q31, ar cI 8), (q39, ar cI 8)] := hD
  refine W.widen (k := 5) (n := 128) (Nat.le_of_ble_eq_true rfl) (Nat.le_of_ble_eq_true rfl) ?_
  refine va_putF (D := D) (ci := 5) (v := .ref q39) (ty := tyX5 4) (C := RX5) (T := TX5) (N := 10) hx hb hts layX5 tyX5 tyX5_ok nmX5 hown hK hP hD hS 0 rfl rfl 4 (by decide) (hts _ (gm 159 (by decide +kernel) rfl)) (fun _ h9 => h9) rfl hin rfl (tyX5_ok 4 (by decide)) rfl rfl (Nat.le_of_ble_eq_true rfl) dX5_init_41 (fun H locs hP hD hS => ?_)
  have hP : va_P D vwCl [(h0, .inr (5, [.ref q7, .ref q15, .ref q23, .ref q31, .ref q39, .null, .null, z0, z0, z0])), (q7, ar cI 8), (q15, ar cB 8), (q23, ar cI 96), (q31, ar cI 8), (q39, ar cI 8)] H := hP
  have hD : va_D A [(h0, .inr (5, [.ref q7, .ref q15, .ref q23, .ref q31, .ref q39, .null, .null, z0, z0, z0])), (q7, ar cI 8), (q15, ar cB 8), (q23, ar cI 96), (q31, ar cI 8), (q39, ar cI 8)] := hD
  refine lv_aload_n hx hb dX5_init_44 rfl (lv_at hl 0 rfl) ?_
  refine lv_bipush (v := Int32.ofInt 40) hx hb dX5_init_45 (by decide) ?_
  refine vnew_i (N := 40) hx hb hts hK hP hD hS hA (by decide) (by decide) (Nat.le_of_ble_eq_true rfl) (Nat.le_of_ble_eq_true rfl) (Nat.le_of_ble_eq_true rfl) dX5_init_47 (fun q47 H hP hD hS => ?_)
  have hP : va_P D vwCl [(h0, .inr (5, [.ref q7, .ref q15, .ref q23, .ref q31, .ref q39, .null, .null, z0, z0, z0])), (q7, ar cI 8), (q15, ar cB 8), (q23, ar cI 96), (q31, ar cI 8), (q39, ar cI 8), (q47, ar cI 40)] H := hP
  have hD : va_D A [(h0, .inr (5, [.ref q7, .ref q15, .ref q23, .ref q31, .ref q39, .null, .null, z0, z0, z0])), (q7, ar cI 8), (q15, ar cB 8), (q23, ar cI 96), (q31, ar cI 8), (q39, ar cI 8), (q47, ar cI 40)] := hD
  refine W.widen (k := 6) (n := 168) (Nat.le_of_ble_eq_true rfl) (Nat.le_of_ble_eq_true rfl) ?_
  refine va_putF (D := D) (ci := 5) (v := .ref q47) (ty := tyX5 5) (C := RX5) (T := TX5) (N := 10) hx hb hts layX5 tyX5 tyX5_ok nmX5 hown hK hP hD hS 0 rfl rfl 5 (by decide) (hts _ (gm 160 (by decide +kernel) rfl)) (fun _ h9 => h9) rfl hin rfl (tyX5_ok 5 (by decide)) rfl rfl (Nat.le_of_ble_eq_true rfl) dX5_init_49 (fun H locs hP hD hS => ?_)
  have hP : va_P D vwCl [(h0, .inr (5, [.ref q7, .ref q15, .ref q23, .ref q31, .ref q39, .ref q47, .null, z0, z0, z0])), (q7, ar cI 8), (q15, ar cB 8), (q23, ar cI 96), (q31, ar cI 8), (q39, ar cI 8), (q47, ar cI 40)] H := hP
  have hD : va_D A [(h0, .inr (5, [.ref q7, .ref q15, .ref q23, .ref q31, .ref q39, .ref q47, .null, z0, z0, z0])), (q7, ar cI 8), (q15, ar cB 8), (q23, ar cI 96), (q31, ar cI 8), (q39, ar cI 8), (q47, ar cI 40)] := hD
  refine lv_aload_n hx hb dX5_init_52 rfl (lv_at hl 0 rfl) ?_
  refine lv_sipush (v := Int32.ofInt 240) hx hb dX5_init_53 (by decide) ?_
  refine vnew_i (N := 240) hx hb hts hK hP hD hS hA (by decide) (by decide) (Nat.le_of_ble_eq_true rfl) (Nat.le_of_ble_eq_true rfl) (Nat.le_of_ble_eq_true rfl) dX5_init_56 (fun q56 H hP hD hS => ?_)
  have hP : va_P D vwCl [(h0, .inr (5, [.ref q7, .ref q15, .ref q23, .ref q31, .ref q39, .ref q47, .null, z0, z0, z0])), (q7, ar cI 8), (q15, ar cB 8), (q23, ar cI 96), (q31, ar cI 8), (q39, ar cI 8), (q47, ar cI 40), (q56, ar cI 240)] H := hP
  have hD : va_D A [(h0, .inr (5, [.ref q7, .ref q15, .ref q23, .ref q31, .ref q39, .ref q47, .null, z0, z0, z0])), (q7, ar cI 8), (q15, ar cB 8), (q23, ar cI 96), (q31, ar cI 8), (q39, ar cI 8), (q47, ar cI 40), (q56, ar cI 240)] := hD
  refine W.widen (k := 7) (n := 408) (Nat.le_of_ble_eq_true rfl) (Nat.le_of_ble_eq_true rfl) ?_
  refine va_putF (D := D) (ci := 5) (v := .ref q56) (ty := tyX5 6) (C := RX5) (T := TX5) (N := 10) hx hb hts layX5 tyX5 tyX5_ok nmX5 hown hK hP hD hS 0 rfl rfl 6 (by decide) (hts _ (gm 161 (by decide +kernel) rfl)) (fun _ h9 => h9) rfl hin rfl (tyX5_ok 6 (by decide)) rfl rfl (Nat.le_of_ble_eq_true rfl) dX5_init_58 (fun H locs hP hD hS => ?_)
  have hP : va_P D vwCl [(h0, .inr (5, [.ref q7, .ref q15, .ref q23, .ref q31, .ref q39, .ref q47, .ref q56, z0, z0, z0])), (q7, ar cI 8), (q15, ar cB 8), (q23, ar cI 96), (q31, ar cI 8), (q39, ar cI 8), (q47, ar cI 40), (q56, ar cI 240)] H := hP
  have hD : va_D A [(h0, .inr (5, [.ref q7, .ref q15, .ref q23, .ref q31, .ref q39, .ref q47, .ref q56, z0, z0, z0])), (q7, ar cI 8), (q15, ar cB 8), (q23, ar cI 96), (q31, ar cI 8), (q39, ar cI 8), (q47, ar cI 40), (q56, ar cI 240)] := hD
  refine lv_aload_n hx hb dX5_init_61 rfl (lv_at hl 0 rfl) ?_
  refine lv_iconst (v := Int32.ofInt 0) hx hb dX5_init_62 (by decide) ?_
  refine va_put (D := D) (ci := 5) (v := .int (Int32.ofInt 0)) (ty := tyX5 7) (C := RX5) (T := TX5) (N := 10) hx hb hts layX5 tyX5 tyX5_ok nmX5 hown hK hP hD hS 0 rfl rfl 7 (by decide) (hts _ (gm 162 (by decide +kernel) rfl)) (fun _ h9 => h9) rfl (tyX5_ok 7 (by decide)) rfl rfl (Nat.le_of_ble_eq_true rfl) dX5_init_63 (fun H locs hP hD hS => ?_)
  have hP : va_P D vwCl [(h0, .inr (5, [.ref q7, .ref q15, .ref q23, .ref q31, .ref q39, .ref q47, .ref q56, z0, z0, z0])), (q7, ar cI 8), (q15, ar cB 8), (q23, ar cI 96), (q31, ar cI 8), (q39, ar cI 8), (q47, ar cI 40), (q56, ar cI 240)] H := hP
  have hD : va_D A [(h0, .inr (5, [.ref q7, .ref q15, .ref q23, .ref q31, .ref q39, .ref q47, .ref q56, z0, z0, z0])), (q7, ar cI 8), (q15, ar cB 8), (q23, ar cI 96), (q31, ar cI 8), (q39, ar cI 8), (q47, ar cI 40), (q56, ar cI 240)] := hD
  refine lv_aload_n hx hb dX5_init_66 rfl (lv_at hl 0 rfl) ?_
  refine lv_iconst (v := Int32.ofInt 0) hx hb dX5_init_67 (by decide) ?_
  refine va_put (D := D) (ci := 5) (v := .int (Int32.ofInt 0)) (ty := tyX5 8) (C := RX5) (T := TX5) (N := 10) hx hb hts layX5 tyX5 tyX5_ok nmX5 hown hK hP hD hS 0 rfl rfl 8 (by decide) (hts _ (gm 166 (by decide +kernel) rfl)) (fun _ h9 => h9) rfl (tyX5_ok 8 (by decide)) rfl rfl (Nat.le_of_ble_eq_true rfl) dX5_init_68 (fun H locs hP hD hS => ?_)
  have hP : va_P D vwCl [(h0, .inr (5, [.ref q7, .ref q15, .ref q23, .ref q31, .ref q39, .ref q47, .ref q56, z0, z0, z0])), (q7, ar cI 8), (q15, ar cB 8), (q23, ar cI 96), (q31, ar cI 8), (q39, ar cI 8), (q47, ar cI 40), (q56, ar cI 240)] H := hP
  have hD : va_D A [(h0, .inr (5, [.ref q7, .ref q15, .ref q23, .ref q31, .ref q39, .ref q47, .ref q56, z0, z0, z0])), (q7, ar cI 8), (q15, ar cB 8), (q23, ar cI 96), (q31, ar cI 8), (q39, ar cI 8), (q47, ar cI 40), (q56, ar cI 240)] := hD
  refine lv_aload_n hx hb dX5_init_71 rfl (lv_at hl 0 rfl) ?_
  refine lv_iconst (v := Int32.ofInt 0) hx hb dX5_init_72 (by decide) ?_
  refine va_put (D := D) (ci := 5) (v := .int (Int32.ofInt 0)) (ty := tyX5 9) (C := RX5) (T := TX5) (N := 10) hx hb hts layX5 tyX5 tyX5_ok nmX5 hown hK hP hD hS 0 rfl rfl 9 (by decide) (hts _ (gm 168 (by decide +kernel) rfl)) (fun _ h9 => h9) rfl (tyX5_ok 9 (by decide)) rfl rfl (Nat.le_of_ble_eq_true rfl) dX5_init_73 (fun H locs hP hD hS => ?_)
  have hP : va_P D vwCl [(h0, .inr (5, [.ref q7, .ref q15, .ref q23, .ref q31, .ref q39, .ref q47, .ref q56, z0, z0, z0])), (q7, ar cI 8), (q15, ar cB 8), (q23, ar cI 96), (q31, ar cI 8), (q39, ar cI 8), (q47, ar cI 40), (q56, ar cI 240)] H := hP
  have hD : va_D A [(h0, .inr (5, [.ref q7, .ref q15, .ref q23, .ref q31, .ref q39, .ref q47, .ref q56, z0, z0, z0])), (q7, ar cI 8), (q15, ar cB 8), (q23, ar cI 96), (q31, ar cI 8), (q39, ar cI 8), (q47, ar cI 40), (q56, ar cI 240)] := hD
  exact W.vret hx hb hr (fun t ht hW => ⟨⟨(), rfl, trivial, q7, q15, q23, q31, q39, q47, q56, by rw [ht]; exact hP, hD⟩, hS.F ht⟩) hS.2.2 dX5_init_76
set_option maxRecDepth 100000 in
set_option maxHeartbeats 4000000 in
theorem ct_X4 (l : Launch) (D : va_G) (cI cB : ClassId) (h0 a1 sz : Nat) : Met l mX4_init.1 (cdw mX4_init :: gTbl) ({ frames := 1, cells := 4, slots := 180, locals := 12 }) (PC D cI cB [(h0, .inr (4, [.null, .null, .null, .null, .null, lz, z0, z0, z0]))] sz [.ref h0, .ref a1]) (va_Qv (fun _ : Unit => True) (fun _ t => ∃ q7 q15 q23 q31 : Nat, va_P D vwCl [(h0, .inr (4, [.ref a1, .ref q7, .ref q15, .ref q23, .ref q31, lz, z0, z0, z0])), (q7, ar cI 60), (q15, ar cI 40), (q23, ar cI 40), (q31, ar cI 40)] t.heap ∧ va_D (va_A [(h0, .inr (4, [.null, .null, .null, .null, .null, lz, z0, z0, z0]))] sz) [(h0, .inr (4, [.ref a1, .ref q7, .ref q15, .ref q23, .ref q31, lz, z0, z0, z0])), (q7, ar cI 60), (q15, ar cI 40), (q23, ar cI 40), (q31, ar cI 40)]) (va_A [(h0, .inr (4, [.null, .null, .null, .null, .null, lz, z0, z0, z0]))] sz)) 4 180 (va_A [(h0, .inr (4, [.null, .null, .null, .null, .null, lz, z0, z0, z0]))] sz) := by
  refine Met.ofW (cc := cX4_init) (maxL := 2) (ret := none) (by decide +kernel) rfl ?_
  intro p e s m args below meth c s₁ B hml hv
  obtain ⟨rfl, hsz, hP, hK, hN, hD0⟩ := hv
  have hx := B.exec
  have hb := B.bytes
  have hr := B.returns
  have hts0 := atoms_spec (ws := cdw mX4_init :: gTbl) B.pre
  have hts : ∀ w ∈ gTbl, w.before _ s = true := fun w hw => hts0 w (List.mem_cons_of_mem _ hw)
  have hown : s.vm.findClass RX4 = some m.cls := findClass_of_methodNamed B.named
  have hlocks := B.notSynchronized
  have hin : meth.name = "<init>" := (name_of_methodNamed B.named B.method).1
  subst hsz
  have hD := hD0.self (sz := s.heap.size)
  generalize hAe : va_A [(h0, .inr (4, [.null, .null, .null, .null, .null, lz, z0, z0, z0]))] s.heap.size = A at hD ⊢
  have hA : ∀ q : Nat, s.heap.size ≤ q → A q := fun q h => by rw [← hAe]; exact Or.inr h
  have hS : va_S A s.heap s.heap [] := va_S.rf
  have hl := lv_entry ([.ref h0, .ref a1]) (n := 2) (Nat.le_of_ble_eq_true rfl)
  rw [lg_entry_eq]
  generalize (lg_sl ([.ref h0, .ref a1]) ++ List.replicate (2 - (lg_sl ([.ref h0, .ref a1])).length) Slot.unset).toArray = ls at hl ⊢
  have hl : lv_has ls 2 [(0, .ref h0), (1, .ref a1)] := hl
  refine lv_aload_n hx hb dX4_init_0 rfl (lv_at hl 0 rfl) ?_
  refine W.objInit hx hb hown (hts _ (gm 198 (by decide +kernel) rfl)) (hts _ oi_inst) (hts _ oi_code) rfl (by rw [hml]; exact hl.1) rfl dX4_init_1 (Nat.le_of_ble_eq_true rfl) (Nat.le_of_ble_eq_true rfl) ?_
  refine W.eq (g2 := F0 m 4 ls []) rfl ?_
  refine lv_aload_n hx hb dX4_init_4 rfl (lv_at hl 0 rfl) ?_
  refine lv_bipush (v := Int32.ofInt 60) hx hb dX4_init_5 (by decide) ?_
  refine vnew_i (N := 60) hx hb hts hK hP hD hS hA (by decide) (by decide) (Nat.le_of_ble_eq_true rfl) (Nat.le_of_ble_eq_true rfl) (Nat.le_of_ble_eq_true rfl) dX4_init_7 (fun q7 H hP hD hS => ?_)
  have hP : va_P D vwCl [(h0, .inr (4, [.null, .null, .null, .null, .null, lz, z0, z0, z0])), (q7, ar cI 60)] H := hP
  have hD : va_D A [(h0, .inr (4, [.null, .null, .null, .null, .null, lz, z0, z0, z0])), (q7, ar cI 60)] := hD
  refine W.widen (k := 1) (n := 60) (Nat.le_of_ble_eq_true rfl) (Nat.le_of_ble_eq_true rfl) ?_
  refine va_putF (D := D) (ci := 4) (v := .ref q7) (ty := tyX4 1) (C := RX4) (T := TX4) (N := 9) hx hb hts layX4 tyX4 tyX4_ok nmX4 hown hK hP hD hS 0 rfl rfl 1 (by decide) (hts _ (gm 200 (by decide +kernel) rfl)) (fun _ h9 => h9) rfl hin rfl (tyX4_ok 1 (by decide)) rfl rfl (Nat.le_of_ble_eq_true rfl) dX4_init_9 (fun H locs hP hD hS => ?_)
  have hP : va_P D vwCl [(h0, .inr (4, [.null, .ref q7, .null, .null, .null, lz, z0, z0, z0])), (q7, ar cI 60)] H := hP
  have hD : va_D A [(h0, .inr (4, [.null, .ref q7, .null, .null, .null, lz, z0, z0, z0])), (q7, ar cI 60)] := hD
  refine lv_aload_n hx hb dX4_init_12 rfl (lv_at hl 0 rfl) ?_
  refine lv_bipush (v := Int32.ofInt 40) hx hb dX4_init_13 (by decide) ?_
  refine vnew_i (N := 40) hx hb hts hK hP hD hS hA (by decide) (by decide) (Nat.le_of_ble_eq_true rfl) (Nat.le_of_ble_eq_true rfl) (Nat.le_of_ble_eq_true rfl) dX4_init_15 (fun q15 H hP hD hS => ?_)
  have hP : va_P D vwCl [(h0, .inr (4, [.null, .ref q7, .null, .null, .null, lz, z0, z0, z0])), (q7, ar cI 60), (q15, ar cI 40)] H := hP
  have hD : va_D A [(h0, .inr (4, [.null, .ref q7, .null, .null, .null, lz, z0, z0, z0])), (q7, ar cI 60), (q15, ar cI 40)] := hD
  refine W.widen (k := 2) (n := 100) (Nat.le_of_ble_eq_true rfl) (Nat.le_of_ble_eq_true rfl) ?_
  refine va_putF (D := D) (ci := 4) (v := .ref q15) (ty := tyX4 2) (C := RX4) (T := TX4) (N := 9) hx hb hts layX4 tyX4 tyX4_ok nmX4 hown hK hP hD hS 0 rfl rfl 2 (by decide) (hts _ (gm 201 (by decide +kernel) rfl)) (fun _ h9 => h9) rfl hin rfl (tyX4_ok 2 (by decide)) rfl rfl (Nat.le_of_ble_eq_true rfl) dX4_init_17 (fun H locs hP hD hS => ?_)
  have hP : va_P D vwCl [(h0, .inr (4, [.null, .ref q7, .ref q15, .null, .null, lz, z0, z0, z0])), (q7, ar cI 60), (q15, ar cI 40)] H := hP
  have hD : va_D A [(h0, .inr (4, [.null, .ref q7, .ref q15, .null, .null, lz, z0, z0, z0])), (q7, ar cI 60), (q15, ar cI 40)] := hD
  refine lv_aload_n hx hb dX4_init_20 rfl (lv_at hl 0 rfl) ?_
  refine lv_bipush (v := Int32.ofInt 40) hx hb dX4_init_21 (by decide) ?_
  refine vnew_i (N := 40) hx hb hts hK hP hD hS hA (by decide) (by decide) (Nat.le_of_ble_eq_true rfl) (Nat.le_of_ble_eq_true rfl) (Nat.le_of_ble_eq_true rfl) dX4_init_23 (fun q23 H hP hD hS => ?_)
  have hP : va_P D vwCl [(h0, .inr (4, [.null, .ref q7, .ref q15, .null, .null, lz, z0, z0, z0])), (q7, ar cI 60), (q15, ar cI 40), (q23, ar cI 40)] H := hP
  have hD : va_D A [(h0, .inr (4, [.null, .ref q7, .ref q15, .null, .null, lz, z0, z0, z0])), (q7, ar cI 60), (q15, ar cI 40), (q23, ar cI 40)] := hD
  refine W.widen (k := 3) (n := 140) (Nat.le_of_ble_eq_true rfl) (Nat.le_of_ble_eq_true rfl) ?_
  refine va_putF (D := D) (ci := 4) (v := .ref q23) (ty := tyX4 3) (C := RX4) (T := TX4) (N := 9) hx hb hts layX4 tyX4 tyX4_ok nmX4 hown hK hP hD hS 0 rfl rfl 3 (by decide) (hts _ (gm 202 (by decide +kernel) rfl)) (fun _ h9 => h9) rfl hin rfl (tyX4_ok 3 (by decide)) rfl rfl (Nat.le_of_ble_eq_true rfl) dX4_init_25 (fun H locs hP hD hS => ?_)
  have hP : va_P D vwCl [(h0, .inr (4, [.null, .ref q7, .ref q15, .ref q23, .null, lz, z0, z0, z0])), (q7, ar cI 60), (q15, ar cI 40), (q23, ar cI 40)] H := hP
  have hD : va_D A [(h0, .inr (4, [.null, .ref q7, .ref q15, .ref q23, .null, lz, z0, z0, z0])), (q7, ar cI 60), (q15, ar cI 40), (q23, ar cI 40)] := hD
  refine lv_aload_n hx hb dX4_init_28 rfl (lv_at hl 0 rfl) ?_
  refine lv_bipush (v := Int32.ofInt 40) hx hb dX4_init_29 (by decide) ?_
  refine vnew_i (N := 40) hx hb hts hK hP hD hS hA (by decide) (by decide) (Nat.le_of_ble_eq_true rfl) (Nat.le_of_ble_eq_true rfl) (Nat.le_of_ble_eq_true rfl) dX4_init_31 (fun q31 H hP hD hS => ?_)
  have hP : va_P D vwCl [(h0, .inr (4, [.null, .ref q7, .ref q15, .ref q23, .null, lz, z0, z0, z0])), (q7, ar cI 60), (q15, ar cI 40), (q23, ar cI 40), (q31, ar cI 40)] H := hP
  have hD : va_D A [(h0, .inr (4, [.null, .ref q7, .ref q15, .ref q23, .null, lz, z0, z0, z0])), (q7, ar cI 60), (q15, ar cI 40), (q23, ar cI 40), (q31, ar cI 40)] := hD
  refine W.widen (k := 4) (n := 180) (Nat.le_of_ble_eq_true rfl) (Nat.le_of_ble_eq_true rfl) ?_
  refine va_putF (D := D) (ci := 4) (v := .ref q31) (ty := tyX4 4) (C := RX4) (T := TX4) (N := 9) hx hb hts layX4 tyX4 tyX4_ok nmX4 hown hK hP hD hS 0 rfl rfl 4 (by decide) (hts _ (gm 203 (by decide +kernel) rfl)) (fun _ h9 => h9) rfl hin rfl (tyX4_ok 4 (by decide)) rfl rfl (Nat.le_of_ble_eq_true rfl) dX4_init_33 (fun H locs hP hD hS => ?_)
  have hP : va_P D vwCl [(h0, .inr (4, [.null, .ref q7, .ref q15, .ref q23, .ref q31, lz, z0, z0, z0])), (q7, ar cI 60), (q15, ar cI 40), (q23, ar cI 40), (q31, ar cI 40)] H := hP
  have hD : va_D A [(h0, .inr (4, [.null, .ref q7, .ref q15, .ref q23, .ref q31, lz, z0, z0, z0])), (q7, ar cI 60), (q15, ar cI 40), (q23, ar cI 40), (q31, ar cI 40)] := hD
  refine lv_aload_n hx hb dX4_init_36 rfl (lv_at hl 0 rfl) ?_
  refine lv_aload_n hx hb dX4_init_37 rfl (lv_at hl 1 rfl) ?_
  refine va_putF (D := D) (ci := 4) (v := .ref a1) (ty := tyX4 0) (C := RX4) (T := TX4) (N := 9) hx hb hts layX4 tyX4 tyX4_ok nmX4 hown hK hP hD hS 0 rfl rfl 0 (by decide) (hts _ (gm 199 (by decide +kernel) rfl)) (fun _ h9 => h9) rfl hin rfl (tyX4_ok 0 (by decide)) rfl rfl (Nat.le_of_ble_eq_true rfl) dX4_init_38 (fun H locs hP hD hS => ?_)
  have hP : va_P D vwCl [(h0, .inr (4, [.ref a1, .ref q7, .ref q15, .ref q23, .ref q31, lz, z0, z0, z0])), (q7, ar cI 60), (q15, ar cI 40), (q23, ar cI 40), (q31, ar cI 40)] H := hP
  have hD : va_D A [(h0, .inr (4, [.ref a1, .ref q7, .ref q15, .ref q23, .ref q31, lz, z0, z0, z0])), (q7, ar cI 60), (q15, ar cI 40), (q23, ar cI 40), (q31, ar cI 40)] := hD
  exact W.vret hx hb hr (fun t ht hW => ⟨⟨(), rfl, trivial, q7, q15, q23, q31, by rw [ht]; exact hP, hD⟩, hS.F ht⟩) hS.2.2 dX4_init_41
set_option maxRecDepth 100000 in
set_option maxHeartbeats 4000000 in
theorem ct_X3 (l : Launch) (D : va_G) (cI cB : ClassId) (h0 a1 a2 sz : Nat) : Met l mX3_init.1 (cdw mX3_init :: gTbl) ({ frames := 1, cells := 3, slots := 2976, locals := 12 }) (PC D cI cB [(h0, .inr (3, [.null, .null, .null, .null, .null, lz, z0, z0]))] sz [.ref h0, .ref a1, .ref a2]) (va_Qv (fun _ : Unit => True) (fun _ t => ∃ q8 q16 q24 : Nat, va_P D vwCl [(h0, .inr (3, [.ref a1, .ref a2, .ref q8, .ref q16, .ref q24, lz, z0, m1])), (q8, ar cI 2880), (q16, ar cI 48), (q24, ar cI 48)] t.heap ∧ va_D (va_A [(h0, .inr (3, [.null, .null, .null, .null, .null, lz, z0, z0]))] sz) [(h0, .inr (3, [.ref a1, .ref a2, .ref q8, .ref q16, .ref q24, lz, z0, m1])), (q8, ar cI 2880), (q16, ar cI 48), (q24, ar cI 48)]) (va_A [(h0, .inr (3, [.null, .null, .null, .null, .null, lz, z0, z0]))] sz)) 3 2976 (va_A [(h0, .inr (3, [.null, .null, .null, .null, .null, lz, z0, z0]))] sz) := by
  refine Met.ofW (cc := cX3_init) (maxL := 3) (ret := none) (by decide +kernel) rfl ?_
  intro p e s m args below meth c s₁ B hml hv
  obtain ⟨rfl, hsz, hP, hK, hN, hD0⟩ := hv
  have hx := B.exec
  have hb := B.bytes
  have hr := B.returns
  have hts0 := atoms_spec (ws := cdw mX3_init :: gTbl) B.pre
  have hts : ∀ w ∈ gTbl, w.before _ s = true := fun w hw => hts0 w (List.mem_cons_of_mem _ hw)
  have hown : s.vm.findClass RX3 = some m.cls := findClass_of_methodNamed B.named
  have hlocks := B.notSynchronized
  have hin : meth.name = "<init>" := (name_of_methodNamed B.named B.method).1
  subst hsz
  have hD := hD0.self (sz := s.heap.size)
  generalize hAe : va_A [(h0, .inr (3, [.null, .null, .null, .null, .null, lz, z0, z0]))] s.heap.size = A at hD ⊢
  have hA : ∀ q : Nat, s.heap.size ≤ q → A q := fun q h => by rw [← hAe]; exact Or.inr h
  have hS : va_S A s.heap s.heap [] := va_S.rf
  have hl := lv_entry ([.ref h0, .ref a1, .ref a2]) (n := 3) (Nat.le_of_ble_eq_true rfl)
  rw [lg_entry_eq]
  generalize (lg_sl ([.ref h0, .ref a1, .ref a2]) ++ List.replicate (3 - (lg_sl ([.ref h0, .ref a1, .ref a2])).length) Slot.unset).toArray = ls at hl ⊢
  have hl : lv_has ls 3 [(0, .ref h0), (1, .ref a1), (2, .ref a2)] := hl
  refine lv_aload_n hx hb dX3_init_0 rfl (lv_at hl 0 rfl) ?_
  refine W.objInit hx hb hown (hts _ (gm 234 (by decide +kernel) rfl)) (hts _ oi_inst) (hts _ oi_code) rfl (by rw [hml]; exact hl.1) rfl dX3_init_1 (Nat.le_of_ble_eq_true rfl) (Nat.le_of_ble_eq_true rfl) ?_
  refine W.eq (g2 := F0 m 4 ls []) rfl ?_
  refine lv_aload_n hx hb dX3_init_4 rfl (lv_at hl 0 rfl) ?_
  refine lv_sipush (v := Int32.ofInt 2880) hx hb dX3_init_5 (by decide) ?_
  refine vnew_i (N := 2880) hx hb hts hK hP hD hS hA (by decide) (by decide) (Nat.le_of_ble_eq_true rfl) (Nat.le_of_ble_eq_true rfl) (Nat.le_of_ble_eq_true rfl) dX3_init_8 (fun q8 H hP hD hS => ?_)
  have hP : va_P D vwCl [(h0, .inr (3, [.null, .null, .null, .null, .null, lz, z0, z0])), (q8, ar cI 2880)] H := hP
  have hD : va_D A [(h0, .inr (3, [.null, .null, .null, .null, .null, lz, z0, z0])), (q8, ar cI 2880)] := hD
  refine W.widen (k := 1) (n := 2880) (Nat.le_of_ble_eq_true rfl) (Nat.le_of_ble_eq_true rfl) ?_
  refine va_putF (D := D) (ci := 3) (v := .ref q8) (ty := tyX3 2) (C := RX3) (T := TX3) (N := 8) hx hb hts layX3 tyX3 tyX3_ok nmX3 hown hK hP hD hS 0 rfl rfl 2 (by decide) (hts _ (gm 237 (by decide +kernel) rfl)) (fun _ h9 => h9) rfl hin rfl (tyX3_ok 2 (by decide)) rfl rfl (Nat.le_of_ble_eq_true rfl) dX3_init_10 (fun H locs hP hD hS => ?_)
  have hP : va_P D vwCl [(h0, .inr (3, [.null, .null, .ref q8, .null, .null, lz, z0, z0])), (q8, ar cI 2880)] H := hP
  have hD : va_D A [(h0, .inr (3, [.null, .null, .ref q8, .null, .null, lz, z0, z0])), (q8, ar cI 2880)] := hD
  refine lv_aload_n hx hb dX3_init_13 rfl (lv_at hl 0 rfl) ?_
  refine lv_bipush (v := Int32.ofInt 48) hx hb dX3_init_14 (by decide) ?_
  refine vnew_i (N := 48) hx hb hts hK hP hD hS hA (by decide) (by decide) (Nat.le_of_ble_eq_true rfl) (Nat.le_of_ble_eq_true rfl) (Nat.le_of_ble_eq_true rfl) dX3_init_16 (fun q16 H hP hD hS => ?_)
  have hP : va_P D vwCl [(h0, .inr (3, [.null, .null, .ref q8, .null, .null, lz, z0, z0])), (q8, ar cI 2880), (q16, ar cI 48)] H := hP
  have hD : va_D A [(h0, .inr (3, [.null, .null, .ref q8, .null, .null, lz, z0, z0])), (q8, ar cI 2880), (q16, ar cI 48)] := hD
  refine W.widen (k := 2) (n := 2928) (Nat.le_of_ble_eq_true rfl) (Nat.le_of_ble_eq_true rfl) ?_
  refine va_putF (D := D) (ci := 3) (v := .ref q16) (ty := tyX3 3) (C := RX3) (T := TX3) (N := 8) hx hb hts layX3 tyX3 tyX3_ok nmX3 hown hK hP hD hS 0 rfl rfl 3 (by decide) (hts _ (gm 238 (by decide +kernel) rfl)) (fun _ h9 => h9) rfl hin rfl (tyX3_ok 3 (by decide)) rfl rfl (Nat.le_of_ble_eq_true rfl) dX3_init_18 (fun H locs hP hD hS => ?_)
  have hP : va_P D vwCl [(h0, .inr (3, [.null, .null, .ref q8, .ref q16, .null, lz, z0, z0])), (q8, ar cI 2880), (q16, ar cI 48)] H := hP
  have hD : va_D A [(h0, .inr (3, [.null, .null, .ref q8, .ref q16, .null, lz, z0, z0])), (q8, ar cI 2880), (q16, ar cI 48)] := hD
  refine lv_aload_n hx hb dX3_init_21 rfl (lv_at hl 0 rfl) ?_
  refine lv_bipush (v := Int32.ofInt 48) hx hb dX3_init_22 (by decide) ?_
  refine vnew_i (N := 48) hx hb hts hK hP hD hS hA (by decide) (by decide) (Nat.le_of_ble_eq_true rfl) (Nat.le_of_ble_eq_true rfl) (Nat.le_of_ble_eq_true rfl) dX3_init_24 (fun q24 H hP hD hS => ?_)
  have hP : va_P D vwCl [(h0, .inr (3, [.null, .null, .ref q8, .ref q16, .null, lz, z0, z0])), (q8, ar cI 2880), (q16, ar cI 48), (q24, ar cI 48)] H := hP
  have hD : va_D A [(h0, .inr (3, [.null, .null, .ref q8, .ref q16, .null, lz, z0, z0])), (q8, ar cI 2880), (q16, ar cI 48), (q24, ar cI 48)] := hD
  refine W.widen (k := 3) (n := 2976) (Nat.le_of_ble_eq_true rfl) (Nat.le_of_ble_eq_true rfl) ?_
  refine va_putF (D := D) (ci := 3) (v := .ref q24) (ty := tyX3 4) (C := RX3) (T := TX3) (N := 8) hx hb hts layX3 tyX3 tyX3_ok nmX3 hown hK hP hD hS 0 rfl rfl 4 (by decide) (hts _ (gm 239 (by decide +kernel) rfl)) (fun _ h9 => h9) rfl hin rfl (tyX3_ok 4 (by decide)) rfl rfl (Nat.le_of_ble_eq_true rfl) dX3_init_26 (fun H locs hP hD hS => ?_)
  have hP : va_P D vwCl [(h0, .inr (3, [.null, .null, .ref q8, .ref q16, .ref q24, lz, z0, z0])), (q8, ar cI 2880), (q16, ar cI 48), (q24, ar cI 48)] H := hP
  have hD : va_D A [(h0, .inr (3, [.null, .null, .ref q8, .ref q16, .ref q24, lz, z0, z0])), (q8, ar cI 2880), (q16, ar cI 48), (q24, ar cI 48)] := hD
  refine lv_aload_n hx hb dX3_init_29 rfl (lv_at hl 0 rfl) ?_
  refine lv_iconst (v := Int32.ofInt (-1)) hx hb dX3_init_30 (by decide) ?_
  refine va_put (D := D) (ci := 3) (v := .int (Int32.ofInt (-1))) (ty := tyX3 7) (C := RX3) (T := TX3) (N := 8) hx hb hts layX3 tyX3 tyX3_ok nmX3 hown hK hP hD hS 0 rfl rfl 7 (by decide) (hts _ (gm 243 (by decide +kernel) rfl)) (fun _ h9 => h9) rfl (tyX3_ok 7 (by decide)) rfl rfl (Nat.le_of_ble_eq_true rfl) dX3_init_31 (fun H locs hP hD hS => ?_)
  have hP : va_P D vwCl [(h0, .inr (3, [.null, .null, .ref q8, .ref q16, .ref q24, lz, z0, m1])), (q8, ar cI 2880), (q16, ar cI 48), (q24, ar cI 48)] H := hP
  have hD : va_D A [(h0, .inr (3, [.null, .null, .ref q8, .ref q16, .ref q24, lz, z0, m1])), (q8, ar cI 2880), (q16, ar cI 48), (q24, ar cI 48)] := hD
  refine lv_aload_n hx hb dX3_init_34 rfl (lv_at hl 0 rfl) ?_
  refine lv_aload_n hx hb dX3_init_35 rfl (lv_at hl 1 rfl) ?_
  refine va_putF (D := D) (ci := 3) (v := .ref a1) (ty := tyX3 0) (C := RX3) (T := TX3) (N := 8) hx hb hts layX3 tyX3 tyX3_ok nmX3 hown hK hP hD hS 0 rfl rfl 0 (by decide) (hts _ (gm 235 (by decide +kernel) rfl)) (fun _ h9 => h9) rfl hin rfl (tyX3_ok 0 (by decide)) rfl rfl (Nat.le_of_ble_eq_true rfl) dX3_init_36 (fun H locs hP hD hS => ?_)
  have hP : va_P D vwCl [(h0, .inr (3, [.ref a1, .null, .ref q8, .ref q16, .ref q24, lz, z0, m1])), (q8, ar cI 2880), (q16, ar cI 48), (q24, ar cI 48)] H := hP
  have hD : va_D A [(h0, .inr (3, [.ref a1, .null, .ref q8, .ref q16, .ref q24, lz, z0, m1])), (q8, ar cI 2880), (q16, ar cI 48), (q24, ar cI 48)] := hD
  refine lv_aload_n hx hb dX3_init_39 rfl (lv_at hl 0 rfl) ?_
  refine lv_aload_n hx hb dX3_init_40 rfl (lv_at hl 2 rfl) ?_
  refine va_putF (D := D) (ci := 3) (v := .ref a2) (ty := tyX3 1) (C := RX3) (T := TX3) (N := 8) hx hb hts layX3 tyX3 tyX3_ok nmX3 hown hK hP hD hS 0 rfl rfl 1 (by decide) (hts _ (gm 236 (by decide +kernel) rfl)) (fun _ h9 => h9) rfl hin rfl (tyX3_ok 1 (by decide)) rfl rfl (Nat.le_of_ble_eq_true rfl) dX3_init_41 (fun H locs hP hD hS => ?_)
  have hP : va_P D vwCl [(h0, .inr (3, [.ref a1, .ref a2, .ref q8, .ref q16, .ref q24, lz, z0, m1])), (q8, ar cI 2880), (q16, ar cI 48), (q24, ar cI 48)] H := hP
  have hD : va_D A [(h0, .inr (3, [.ref a1, .ref a2, .ref q8, .ref q16, .ref q24, lz, z0, m1])), (q8, ar cI 2880), (q16, ar cI 48), (q24, ar cI 48)] := hD
  exact W.vret hx hb hr (fun t ht hW => ⟨⟨(), rfl, trivial, q8, q16, q24, by rw [ht]; exact hP, hD⟩, hS.F ht⟩) hS.2.2 dX3_init_44
set_option maxRecDepth 100000 in
set_option maxHeartbeats 4000000 in
theorem ct_X0 (l : Launch) (D : va_G) (cI cB : ClassId) (h0 a1 a2 a3 sz : Nat) : Met l mX0_init.1 (cdw mX0_init :: gTbl) ({ frames := 1, cells := 3, slots := 210, locals := 12 }) (PC D cI cB [(h0, .inr (0, [.null, .null, .null, .null, .null, .null, z0, z0, z0, z0, z0, z0, z0, z0]))] sz [.ref h0, .ref a1, .ref a2, .ref a3]) (va_Qv (fun _ : Unit => True) (fun _ t => ∃ q8 q16 q24 : Nat, va_P D vwCl [(h0, .inr (0, [.ref a1, .ref a2, .ref a3, .ref q8, .ref q16, .ref q24, z0, z0, z0, m1, z0, z0, z0, m1])), (q8, ar cI 168), (q16, ar cI 21), (q24, ar cI 21)] t.heap ∧ va_D (va_A [(h0, .inr (0, [.null, .null, .null, .null, .null, .null, z0, z0, z0, z0, z0, z0, z0, z0]))] sz) [(h0, .inr (0, [.ref a1, .ref a2, .ref a3, .ref q8, .ref q16, .ref q24, z0, z0, z0, m1, z0, z0, z0, m1])), (q8, ar cI 168), (q16, ar cI 21), (q24, ar cI 21)]) (va_A [(h0, .inr (0, [.null, .null, .null, .null, .null, .null, z0, z0, z0, z0, z0, z0, z0, z0]))] sz)) 3 210 (va_A [(h0, .inr (0, [.null, .null, .null, .null, .null, .null, z0, z0, z0, z0, z0, z0, z0, z0]))] sz) := by
  refine Met.ofW (cc := cX0_init) (maxL := 4) (ret := none) (by decide +kernel) rfl ?_
  intro p e s m args below meth c s₁ B hml hv
  obtain ⟨rfl, hsz, hP, hK, hN, hD0⟩ := hv
  have hx := B.exec
  have hb := B.bytes
  have hr := B.returns
  have hts0 := atoms_spec (ws := cdw mX0_init :: gTbl) B.pre
  have hts : ∀ w ∈ gTbl, w.before _ s = true := fun w hw => hts0 w (List.mem_cons_of_mem _ hw)
  have hown : s.vm.findClass RX0 = some m.cls := findClass_of_methodNamed B.named
  have hlocks := B.notSynchronized
  have hin : meth.name = "<init>" := (name_of_methodNamed B.named B.method).1
  subst hsz
  have hD := hD0.self (sz := s.heap.size)
  generalize hAe : va_A [(h0, .inr (0, [.null, .null, .null, .null, .null, .null, z0, z0, z0, z0, z0, z0, z0, z0]))] s.heap.size = A at hD ⊢
  have hA : ∀ q : Nat, s.heap.size ≤ q → A q := fun q h => by rw [← hAe]; exact Or.inr h
  have hS : va_S A s.heap s.heap [] := va_S.rf
  have hl := lv_entry ([.ref h0, .ref a1, .ref a2, .ref a3]) (n := 4) (Nat.le_of_ble_eq_true rfl)
  rw [lg_entry_eq]
  generalize (lg_sl ([.ref h0, .ref a1, .ref a2, .ref a3]) ++ List.replicate (4 - (lg_sl ([.ref h0, .ref a1, .ref a2, .ref a3])).length) Slot.unset).toArray = ls at hl ⊢
  have hl : lv_has ls 4 [(0, .ref h0), (1, .ref a1), (2, .ref a2), (3, .ref a3)] := hl
  refine lv_aload_n hx hb dX0_init_0 rfl (lv_at hl 0 rfl) ?_
  refine W.objInit hx hb hown (hts _ (gm 266 (by decide +kernel) rfl)) (hts _ oi_inst) (hts _ oi_code) rfl (by rw [hml]; exact hl.1) rfl dX0_init_1 (Nat.le_of_ble_eq_true rfl) (Nat.le_of_ble_eq_true rfl) ?_
  refine W.eq (g2 := F0 m 4 ls []) rfl ?_
  refine lv_aload_n hx hb dX0_init_4 rfl (lv_at hl 0 rfl) ?_
  refine lv_sipush (v := Int32.ofInt 168) hx hb dX0_init_5 (by decide) ?_
  refine vnew_i (N := 168) hx hb hts hK hP hD hS hA (by decide) (by decide) (Nat.le_of_ble_eq_true rfl) (Nat.le_of_ble_eq_true rfl) (Nat.le_of_ble_eq_true rfl) dX0_init_8 (fun q8 H hP hD hS => ?_)
  have hP : va_P D vwCl [(h0, .inr (0, [.null, .null, .null, .null, .null, .null, z0, z0, z0, z0, z0, z0, z0, z0])), (q8, ar cI 168)] H := hP
  have hD : va_D A [(h0, .inr (0, [.null, .null, .null, .null, .null, .null, z0, z0, z0, z0, z0, z0, z0, z0])), (q8, ar cI 168)] := hD
  refine W.widen (k := 1) (n := 168) (Nat.le_of_ble_eq_true rfl) (Nat.le_of_ble_eq_true rfl) ?_
  refine va_putF (D := D) (ci := 0) (v := .ref q8) (ty := tyX0 3) (C := RX0) (T := TX0) (N := 14) hx hb hts layX0 tyX0 tyX0_ok nmX0 hown hK hP hD hS 0 rfl rfl 3 (by decide) (hts _ (gm 270 (by decide +kernel) rfl)) (fun _ h9 => h9) rfl hin rfl (tyX0_ok 3 (by decide)) rfl rfl (Nat.le_of_ble_eq_true rfl) dX0_init_10 (fun H locs hP hD hS => ?_)
  have hP : va_P D vwCl [(h0, .inr (0, [.null, .null, .null, .ref q8, .null, .null, z0, z0, z0, z0, z0, z0, z0, z0])), (q8, ar cI 168)] H := hP
  have hD : va_D A [(h0, .inr (0, [.null, .null, .null, .ref q8, .null, .null, z0, z0, z0, z0, z0, z0, z0, z0])), (q8, ar cI 168)] := hD
  refine lv_aload_n hx hb dX0_init_13 rfl (lv_at hl 0 rfl) ?_
  refine lv_bipush (v := Int32.ofInt 21) hx hb dX0_init_14 (by decide) ?_
  refine vnew_i (N := 21) hx hb hts hK hP hD hS hA (by decide) (by decide) (Nat.le_of_ble_eq_true rfl) (Nat.le_of_ble_eq_true rfl) (Nat.le_of_ble_eq_true rfl) dX0_init_16 (fun q16 H hP hD hS => ?_)
  have hP : va_P D vwCl [(h0, .inr (0, [.null, .null, .null, .ref q8, .null, .null, z0, z0, z0, z0, z0, z0, z0, z0])), (q8, ar cI 168), (q16, ar cI 21)] H := hP
  have hD : va_D A [(h0, .inr (0, [.null, .null, .null, .ref q8, .null, .null, z0, z0, z0, z0, z0, z0, z0, z0])), (q8, ar cI 168), (q16, ar cI 21)] := hD
  refine W.widen (k := 2) (n := 189) (Nat.le_of_ble_eq_true rfl) (Nat.le_of_ble_eq_true rfl) ?_
  refine va_putF (D := D) (ci := 0) (v := .ref q16) (ty := tyX0 4) (C := RX0) (T := TX0) (N := 14) hx hb hts layX0 tyX0 tyX0_ok nmX0 hown hK hP hD hS 0 rfl rfl 4 (by decide) (hts _ (gm 271 (by decide +kernel) rfl)) (fun _ h9 => h9) rfl hin rfl (tyX0_ok 4 (by decide)) rfl rfl (Nat.le_of_ble_eq_true rfl) dX0_init_18 (fun H locs hP hD hS => ?_)
  have hP : va_P D vwCl [(h0, .inr (0, [.null, .null, .null, .ref q8, .ref q16, .null, z0, z0, z0, z0, z0, z0, z0, z0])), (q8, ar cI 168), (q16, ar cI 21)] H := hP
  have hD : va_D A [(h0, .inr (0, [.null, .null, .null, .ref q8, .ref q16, .null, z0, z0, z0, z0, z0, z0, z0, z0])), (q8, ar cI 168), (q16, ar cI 21)] := hD
  refine lv_aload_n hx hb dX0_init_21 rfl (lv_at hl 0 rfl) ?_
  refine lv_bipush (v := Int32.ofInt 21) hx hb dX0_init_22 (by decide) ?_
  refine vnew_i (N := 21) hx hb hts hK hP hD hS hA (by decide) (by decide) (Nat.le_of_ble_eq_true rfl) (Nat.le_of_ble_eq_true rfl) (Nat.le_of_ble_eq_true rfl) dX0_init_24 (fun q24 H hP hD hS => ?_)
  have hP : va_P D vwCl [(h0, .inr (0, [.null, .null, .null, .ref q8, .ref q16, .null, z0, z0, z0, z0, z0, z0, z0, z0])), (q8, ar cI 168), (q16, ar cI 21), (q24, ar cI 21)] H := hP
  have hD : va_D A [(h0, .inr (0, [.null, .null, .null, .ref q8, .ref q16, .null, z0, z0, z0, z0, z0, z0, z0, z0])), (q8, ar cI 168), (q16, ar cI 21), (q24, ar cI 21)] := hD
  refine W.widen (k := 3) (n := 210) (Nat.le_of_ble_eq_true rfl) (Nat.le_of_ble_eq_true rfl) ?_
  refine va_putF (D := D) (ci := 0) (v := .ref q24) (ty := tyX0 5) (C := RX0) (T := TX0) (N := 14) hx hb hts layX0 tyX0 tyX0_ok nmX0 hown hK hP hD hS 0 rfl rfl 5 (by decide) (hts _ (gm 272 (by decide +kernel) rfl)) (fun _ h9 => h9) rfl hin rfl (tyX0_ok 5 (by decide)) rfl rfl (Nat.le_of_ble_eq_true rfl) dX0_init_26 (fun H locs hP hD hS => ?_)
  have hP : va_P D vwCl [(h0, .inr (0, [.null, .null, .null, .ref q8, .ref q16, .ref q24, z0, z0, z0, z0, z0, z0, z0, z0])), (q8, ar cI 168), (q16, ar cI 21), (q24, ar cI 21)] H := hP
  have hD : va_D A [(h0, .inr (0, [.null, .null, .null, .ref q8, .ref q16, .ref q24, z0, z0, z0, z0, z0, z0, z0, z0])), (q8, ar cI 168), (q16, ar cI 21), (q24, ar cI 21)] := hD
  refine lv_aload_n hx hb dX0_init_29 rfl (lv_at hl 0 rfl) ?_
  refine lv_iconst (v := Int32.ofInt 0) hx hb dX0_init_30 (by decide) ?_
  refine va_put (D := D) (ci := 0) (v := .int (Int32.ofInt 0)) (ty := tyX0 6) (C := RX0) (T := TX0) (N := 14) hx hb hts layX0 tyX0 tyX0_ok nmX0 hown hK hP hD hS 0 rfl rfl 6 (by decide) (hts _ (gm 273 (by decide +kernel) rfl)) (fun _ h9 => h9) rfl (tyX0_ok 6 (by decide)) rfl rfl (Nat.le_of_ble_eq_true rfl) dX0_init_31 (fun H locs hP hD hS => ?_)
  have hP : va_P D vwCl [(h0, .inr (0, [.null, .null, .null, .ref q8, .ref q16, .ref q24, z0, z0, z0, z0, z0, z0, z0, z0])), (q8, ar cI 168), (q16, ar cI 21), (q24, ar cI 21)] H := hP
  have hD : va_D A [(h0, .inr (0, [.null, .null, .null, .ref q8, .ref q16, .ref q24, z0, z0, z0, z0, z0, z0, z0, z0])), (q8, ar cI 168), (q16, ar cI 21), (q24, ar cI 21)] := hD
  refine lv_aload_n hx hb dX0_init_34 rfl (lv_at hl 0 rfl) ?_
  refine lv_iconst (v := Int32.ofInt 0) hx hb dX0_init_35 (by decide) ?_
  refine va_put (D := D) (ci := 0) (v := .int (Int32.ofInt 0)) (ty := tyX0 7) (C := RX0) (T := TX0) (N := 14) hx hb hts layX0 tyX0 tyX0_ok nmX0 hown hK hP hD hS 0 rfl rfl 7 (by decide) (hts _ (gm 275 (by decide +kernel) rfl)) (fun _ h9 => h9) rfl (tyX0_ok 7 (by decide)) rfl rfl (Nat.le_of_ble_eq_true rfl) dX0_init_36 (fun H locs hP hD hS => ?_)
  have hP : va_P D vwCl [(h0, .inr (0, [.null, .null, .null, .ref q8, .ref q16, .ref q24, z0, z0, z0, z0, z0, z0, z0, z0])), (q8, ar cI 168), (q16, ar cI 21), (q24, ar cI 21)] H := hP
  have hD : va_D A [(h0, .inr (0, [.null, .null, .null, .ref q8, .ref q16, .ref q24, z0, z0, z0, z0, z0, z0, z0, z0])), (q8, ar cI 168), (q16, ar cI 21), (q24, ar cI 21)] := hD
  refine lv_aload_n hx hb dX0_init_39 rfl (lv_at hl 0 rfl) ?_
  refine lv_iconst (v := Int32.ofInt 0) hx hb dX0_init_40 (by decide) ?_
  refine va_put (D := D) (ci := 0) (v := .int (Int32.ofInt 0)) (ty := tyX0 8) (C := RX0) (T := TX0) (N := 14) hx hb hts layX0 tyX0 tyX0_ok nmX0 hown hK hP hD hS 0 rfl rfl 8 (by decide) (hts _ (gm 277 (by decide +kernel) rfl)) (fun _ h9 => h9) rfl (tyX0_ok 8 (by decide)) rfl rfl (Nat.le_of_ble_eq_true rfl) dX0_init_41 (fun H locs hP hD hS => ?_)
  have hP : va_P D vwCl [(h0, .inr (0, [.null, .null, .null, .ref q8, .ref q16, .ref q24, z0, z0, z0, z0, z0, z0, z0, z0])), (q8, ar cI 168), (q16, ar cI 21), (q24, ar cI 21)] H := hP
  have hD : va_D A [(h0, .inr (0, [.null, .null, .null, .ref q8, .ref q16, .ref q24, z0, z0, z0, z0, z0, z0, z0, z0])), (q8, ar cI 168), (q16, ar cI 21), (q24, ar cI 21)] := hD
  refine lv_aload_n hx hb dX0_init_44 rfl (lv_at hl 0 rfl) ?_
  refine lv_iconst (v := Int32.ofInt (-1)) hx hb dX0_init_45 (by decide) ?_
  refine va_put (D := D) (ci := 0) (v := .int (Int32.ofInt (-1))) (ty := tyX0 9) (C := RX0) (T := TX0) (N := 14) hx hb hts layX0 tyX0 tyX0_ok nmX0 hown hK hP hD hS 0 rfl rfl 9 (by decide) (hts _ (gm 279 (by decide +kernel) rfl)) (fun _ h9 => h9) rfl (tyX0_ok 9 (by decide)) rfl rfl (Nat.le_of_ble_eq_true rfl) dX0_init_46 (fun H locs hP hD hS => ?_)
  have hP : va_P D vwCl [(h0, .inr (0, [.null, .null, .null, .ref q8, .ref q16, .ref q24, z0, z0, z0, m1, z0, z0, z0, z0])), (q8, ar cI 168), (q16, ar cI 21), (q24, ar cI 21)] H := hP
  have hD : va_D A [(h0, .inr (0, [.null, .null, .null, .ref q8, .ref q16, .ref q24, z0, z0, z0, m1, z0, z0, z0, z0])), (q8, ar cI 168), (q16, ar cI 21), (q24, ar cI 21)] := hD
  refine lv_aload_n hx hb dX0_init_49 rfl (lv_at hl 0 rfl) ?_
  refine lv_iconst (v := Int32.ofInt (-1)) hx hb dX0_init_50 (by decide) ?_
  refine va_put (D := D) (ci := 0) (v := .int (Int32.ofInt (-1))) (ty := tyX0 13) (C := RX0) (T := TX0) (N := 14) hx hb hts layX0 tyX0 tyX0_ok nmX0 hown hK hP hD hS 0 rfl rfl 13 (by decide) (hts _ (gm 287 (by decide +kernel) rfl)) (fun _ h9 => h9) rfl (tyX0_ok 13 (by decide)) rfl rfl (Nat.le_of_ble_eq_true rfl) dX0_init_51 (fun H locs hP hD hS => ?_)
  have hP : va_P D vwCl [(h0, .inr (0, [.null, .null, .null, .ref q8, .ref q16, .ref q24, z0, z0, z0, m1, z0, z0, z0, m1])), (q8, ar cI 168), (q16, ar cI 21), (q24, ar cI 21)] H := hP
  have hD : va_D A [(h0, .inr (0, [.null, .null, .null, .ref q8, .ref q16, .ref q24, z0, z0, z0, m1, z0, z0, z0, m1])), (q8, ar cI 168), (q16, ar cI 21), (q24, ar cI 21)] := hD
  refine lv_aload_n hx hb dX0_init_54 rfl (lv_at hl 0 rfl) ?_
  refine lv_aload_n hx hb dX0_init_55 rfl (lv_at hl 1 rfl) ?_
  refine va_putF (D := D) (ci := 0) (v := .ref a1) (ty := tyX0 0) (C := RX0) (T := TX0) (N := 14) hx hb hts layX0 tyX0 tyX0_ok nmX0 hown hK hP hD hS 0 rfl rfl 0 (by decide) (hts _ (gm 267 (by decide +kernel) rfl)) (fun _ h9 => h9) rfl hin rfl (tyX0_ok 0 (by decide)) rfl rfl (Nat.le_of_ble_eq_true rfl) dX0_init_56 (fun H locs hP hD hS => ?_)
  have hP : va_P D vwCl [(h0, .inr (0, [.ref a1, .null, .null, .ref q8, .ref q16, .ref q24, z0, z0, z0, m1, z0, z0, z0, m1])), (q8, ar cI 168), (q16, ar cI 21), (q24, ar cI 21)] H := hP
  have hD : va_D A [(h0, .inr (0, [.ref a1, .null, .null, .ref q8, .ref q16, .ref q24, z0, z0, z0, m1, z0, z0, z0, m1])), (q8, ar cI 168), (q16, ar cI 21), (q24, ar cI 21)] := hD
  refine lv_aload_n hx hb dX0_init_59 rfl (lv_at hl 0 rfl) ?_
  refine lv_aload_n hx hb dX0_init_60 rfl (lv_at hl 2 rfl) ?_
  refine va_putF (D := D) (ci := 0) (v := .ref a2) (ty := tyX0 1) (C := RX0) (T := TX0) (N := 14) hx hb hts layX0 tyX0 tyX0_ok nmX0 hown hK hP hD hS 0 rfl rfl 1 (by decide) (hts _ (gm 268 (by decide +kernel) rfl)) (fun _ h9 => h9) rfl hin rfl (tyX0_ok 1 (by decide)) rfl rfl (Nat.le_of_ble_eq_true rfl) dX0_init_61 (fun H locs hP hD hS => ?_)
  have hP : va_P D vwCl [(h0, .inr (0, [.ref a1, .ref a2, .null, .ref q8, .ref q16, .ref q24, z0, z0, z0, m1, z0, z0, z0, m1])), (q8, ar cI 168), (q16, ar cI 21), (q24, ar cI 21)] H := hP
  have hD : va_D A [(h0, .inr (0, [.ref a1, .ref a2, .null, .ref q8, .ref q16, .ref q24, z0, z0, z0, m1, z0, z0, z0, m1])), (q8, ar cI 168), (q16, ar cI 21), (q24, ar cI 21)] := hD
  refine lv_aload_n hx hb dX0_init_64 rfl (lv_at hl 0 rfl) ?_
  refine lv_aload_n hx hb dX0_init_65 rfl (lv_at hl 3 rfl) ?_
  refine va_putF (D := D) (ci := 0) (v := .ref a3) (ty := tyX0 2) (C := RX0) (T := TX0) (N := 14) hx hb hts layX0 tyX0 tyX0_ok nmX0 hown hK hP hD hS 0 rfl rfl 2 (by decide) (hts _ (gm 269 (by decide +kernel) rfl)) (fun _ h9 => h9) rfl hin rfl (tyX0_ok 2 (by decide)) rfl rfl (Nat.le_of_ble_eq_true rfl) dX0_init_66 (fun H locs hP hD hS => ?_)
  have hP : va_P D vwCl [(h0, .inr (0, [.ref a1, .ref a2, .ref a3, .ref q8, .ref q16, .ref q24, z0, z0, z0, m1, z0, z0, z0, m1])), (q8, ar cI 168), (q16, ar cI 21), (q24, ar cI 21)] H := hP
  have hD : va_D A [(h0, .inr (0, [.ref a1, .ref a2, .ref a3, .ref q8, .ref q16, .ref q24, z0, z0, z0, m1, z0, z0, z0, m1])), (q8, ar cI 168), (q16, ar cI 21), (q24, ar cI 21)] := hD
  exact W.vret hx hb hr (fun t ht hW => ⟨⟨(), rfl, trivial, q8, q16, q24, by rw [ht]; exact hP, hD⟩, hS.F ht⟩) hS.2.2 dX0_init_69
set_option maxRecDepth 100000 in
set_option maxHeartbeats 4000000 in
theorem ct_X7 (l : Launch) (D : va_G) (cI cB : ClassId) (h0  sz : Nat) : Met l mX7_init.1 (cdw mX7_init :: gTbl) ({ frames := 1, cells := 22, slots := 3181, locals := 12 }) (PC D cI cB [(h0, .inr (7, [z0, .null, z0, .null, .null, .null, .null, z0, z0, .null, .null, .null, z0, .null, .null, z0, .null, z0, z0, z0, z0, z0, z0, z0, .null, .null, .null, z0, z0, .null, .null, z0, z0, .null, .null, .null, z0, .null, .null, z0, z0, z0, .null, z0, lz]))] sz [.ref h0]) (va_Qv (fun _ : Unit => True) (fun _ t => ∃ q7 q15 q23 q32 q40 q48 q56 q65 q74 q83 q91 q99 q107 q115 q123 q131 q139 q147 q155 q163 q171 q179 : Nat, va_P D vwCl [(h0, .inr (7, [z0, .ref q7, z0, .ref q15, .ref q23, .ref q32, .ref q40, z0, z0, .ref q48, .ref q56, .ref q65, z0, .ref q74, .ref q83, z0, .ref q91, z0, z0, z0, z0, z0, z0, z0, .ref q99, .ref q107, .ref q115, z0, z0, .ref q123, .ref q131, z0, z0, .ref q139, .ref q147, .ref q155, z0, .ref q163, .ref q171, z0, z0, z0, .ref q179, z0, lz])), (q7, ar cI 40), (q15, ar cI 8), (q23, ar cB 8), (q32, ar cI 192), (q40, ar cI 16), (q48, ar cI 40), (q56, ar cI 40), (q65, ar cI 240), (q74, ar cI 1920), (q83, ar cI 160), (q91, ar cI 6), (q99, ar cI 6), (q107, ar cI 6), (q115, ar cI 36), (q123, ar cI 60), (q131, ar cI 60), (q139, ar cI 61), (q147, ar cI 61), (q155, ar cI 61), (q163, ar cI 60), (q171, ar cI 60), (q179, ar cB 40)] t.heap ∧ va_D (va_A [(h0, .inr (7, [z0, .null, z0, .null, .null, .null, .null, z0, z0, .null, .null, .null, z0, .null, .null, z0, .null, z0, z0, z0, z0, z0, z0, z0, .null, .null, .null, z0, z0, .null, .null, z0, z0, .null, .null, .null, z0, .null, .null, z0, z0, z0, .null, z0, lz]))] sz) [(h0, .inr (7, [z0, .ref q7, z0, .ref q15, .ref q23, .ref q32, .ref q40, z0, z0, .ref q48, .ref q56, .ref q65, z0, .ref q74, .ref q83, z0, .ref q91, z0, z0, z0, z0, z0, z0, z0, .ref q99, .ref q107, .ref q115, z0, z0, .ref q123, .ref q131, z0, z0, .ref q139, .ref q147, .ref q155, z0, .ref q163, .ref q171, z0, z0, z0, .ref q179, z0, lz])), (q7, ar cI 40), (q15, ar cI 8), (q23, ar cB 8), (q32, ar cI 192), (q40, ar cI 16), (q48, ar cI 40), (q56, ar cI 40), (q65, ar cI 240), (q74, ar cI 1920), (q83, ar cI 160), (q91, ar cI 6), (q99, ar cI 6), (q107, ar cI 6), (q115, ar cI 36), (q123, ar cI 60), (q131, ar cI 60), (q139, ar cI 61), (q147, ar cI 61), (q155, ar cI 61), (q163, ar cI 60), (q171, ar cI 60), (q179, ar cB 40)]) (va_A [(h0, .inr (7, [z0, .null, z0, .null, .null, .null, .null, z0, z0, .null, .null, .null, z0, .null, .null, z0, .null, z0, z0, z0, z0, z0, z0, z0, .null, .null, .null, z0, z0, .null, .null, z0, z0, .null, .null, .null, z0, .null, .null, z0, z0, z0, .null, z0, lz]))] sz)) 22 3181 (va_A [(h0, .inr (7, [z0, .null, z0, .null, .null, .null, .null, z0, z0, .null, .null, .null, z0, .null, .null, z0, .null, z0, z0, z0, z0, z0, z0, z0, .null, .null, .null, z0, z0, .null, .null, z0, z0, .null, .null, .null, z0, .null, .null, z0, z0, z0, .null, z0, lz]))] sz) := by
  refine Met.ofW (cc := cX7_init) (maxL := 1) (ret := none) (by decide +kernel) rfl ?_
  intro p e s m args below meth c s₁ B hml hv
  obtain ⟨rfl, hsz, hP, hK, hN, hD0⟩ := hv
  have hx := B.exec
  have hb := B.bytes
  have hr := B.returns
  have hts0 := atoms_spec (ws := cdw mX7_init :: gTbl) B.pre
  have hts : ∀ w ∈ gTbl, w.before _ s = true := fun w hw => hts0 w (List.mem_cons_of_mem _ hw)
  have hown : s.vm.findClass RX7 = some m.cls := findClass_of_methodNamed B.named
  have hlocks := B.notSynchronized
  have hin : meth.name = "<init>" := (name_of_methodNamed B.named B.method).1
  subst hsz
  have hD := hD0.self (sz := s.heap.size)
  generalize hAe : va_A [(h0, .inr (7, [z0, .null, z0, .null, .null, .null, .null, z0, z0, .null, .null, .null, z0, .null, .null, z0, .null, z0, z0, z0, z0, z0, z0, z0, .null, .null, .null, z0, z0, .null, .null, z0, z0, .null, .null, .null, z0, .null, .null, z0, z0, z0, .null, z0, lz]))] s.heap.size = A at hD ⊢
  have hA : ∀ q : Nat, s.heap.size ≤ q → A q := fun q h => by rw [← hAe]; exact Or.inr h
  have hS : va_S A s.heap s.heap [] := va_S.rf
  have hl := lv_entry ([.ref h0]) (n := 1) (Nat.le_of_ble_eq_true rfl)
  rw [lg_entry_eq]
  generalize (lg_sl ([.ref h0]) ++ List.replicate (1 - (lg_sl ([.ref h0])).length) Slot.unset).toArray = ls at hl ⊢
  have hl : lv_has ls 1 [(0, .ref h0)] := hl
  refine lv_aload_n hx hb dX7_init_0 rfl (lv_at hl 0 rfl) ?_
  refine W.objInit hx hb hown (hts _ (gm 798 (by decide +kernel) rfl)) (hts _ oi_inst) (hts _ oi_code) rfl (by rw [hml]; exact hl.1) rfl dX7_init_1 (Nat.le_of_ble_eq_true rfl) (Nat.le_of_ble_eq_true rfl) ?_
  refine W.eq (g2 := F0 m 4 ls []) rfl ?_
  refine lv_aload_n hx hb dX7_init_4 rfl (lv_at hl 0 rfl) ?_
  refine lv_bipush (v := Int32.ofInt 40) hx hb dX7_init_5 (by decide) ?_
  refine vnew_i (N := 40) hx hb hts hK hP hD hS hA (by decide) (by decide) (Nat.le_of_ble_eq_true rfl) (Nat.le_of_ble_eq_true rfl) (Nat.le_of_ble_eq_true rfl) dX7_init_7 (fun q7 H hP hD hS => ?_)
  have hP : va_P D vwCl [(h0, .inr (7, [z0, .null, z0, .null, .null, .null, .null, z0, z0, .null, .null, .null, z0, .null, .null, z0, .null, z0, z0, z0, z0, z0, z0, z0, .null, .null, .null, z0, z0, .null, .null, z0, z0, .null, .null, .null, z0, .null, .null, z0, z0, z0, .null, z0, lz])), (q7, ar cI 40)] H := hP
  have hD : va_D A [(h0, .inr (7, [z0, .null, z0, .null, .null, .null, .null, z0, z0, .null, .null, .null, z0, .null, .null, z0, .null, z0, z0, z0, z0, z0, z0, z0, .null, .null, .null, z0, z0, .null, .null, z0, z0, .null, .null, .null, z0, .null, .null, z0, z0, z0, .null, z0, lz])), (q7, ar cI 40)] := hD
  refine W.widen (k := 1) (n := 40) (Nat.le_of_ble_eq_true rfl) (Nat.le_of_ble_eq_true rfl) ?_
  refine va_putF (D := D) (ci := 7) (v := .ref q7) (ty := tyX7 1) (C := RX7) (T := TX7) (N := 45) hx hb hts layX7 tyX7 tyX7_ok nmX7 hown hK hP hD hS 0 rfl rfl 1 (by decide) (hts _ (gm 800 (by decide +kernel) rfl)) (fun _ h9 => h9) rfl hin rfl (tyX7_ok 1 (by decide)) rfl rfl (Nat.le_of_ble_eq_true rfl) dX7_init_9 (fun H locs hP hD hS => ?_)
  have hP : va_P D vwCl [(h0, .inr (7, [z0, .ref q7, z0, .null, .null, .null, .null, z0, z0, .null, .null, .null, z0, .null, .null, z0, .null, z0, z0, z0, z0, z0, z0, z0, .null, .null, .null, z0, z0, .null, .null, z0, z0, .null, .null, .null, z0, .null, .null, z0, z0, z0, .null, z0, lz])), (q7, ar cI 40)] H := hP
  have hD : va_D A [(h0, .inr (7, [z0, .ref q7, z0, .null, .null, .null, .null, z0, z0, .null, .null, .null, z0, .null, .null, z0, .null, z0, z0, z0, z0, z0, z0, z0, .null, .null, .null, z0, z0, .null, .null, z0, z0, .null, .null, .null, z0, .null, .null, z0, z0, z0, .null, z0, lz])), (q7, ar cI 40)] := hD
  refine lv_aload_n hx hb dX7_init_12 rfl (lv_at hl 0 rfl) ?_
  refine lv_bipush (v := Int32.ofInt 8) hx hb dX7_init_13 (by decide) ?_
  refine vnew_i (N := 8) hx hb hts hK hP hD hS hA (by decide) (by decide) (Nat.le_of_ble_eq_true rfl) (Nat.le_of_ble_eq_true rfl) (Nat.le_of_ble_eq_true rfl) dX7_init_15 (fun q15 H hP hD hS => ?_)
  have hP : va_P D vwCl [(h0, .inr (7, [z0, .ref q7, z0, .null, .null, .null, .null, z0, z0, .null, .null, .null, z0, .null, .null, z0, .null, z0, z0, z0, z0, z0, z0, z0, .null, .null, .null, z0, z0, .null, .null, z0, z0, .null, .null, .null, z0, .null, .null, z0, z0, z0, .null, z0, lz])), (q7, ar cI 40), (q15, ar cI 8)] H := hP
  have hD : va_D A [(h0, .inr (7, [z0, .ref q7, z0, .null, .null, .null, .null, z0, z0, .null, .null, .null, z0, .null, .null, z0, .null, z0, z0, z0, z0, z0, z0, z0, .null, .null, .null, z0, z0, .null, .null, z0, z0, .null, .null, .null, z0, .null, .null, z0, z0, z0, .null, z0, lz])), (q7, ar cI 40), (q15, ar cI 8)] := hD
  refine W.widen (k := 2) (n := 48) (Nat.le_of_ble_eq_true rfl) (Nat.le_of_ble_eq_true rfl) ?_
  refine va_putF (D := D) (ci := 7) (v := .ref q15) (ty := tyX7 3) (C := RX7) (T := TX7) (N := 45) hx hb hts layX7 tyX7 tyX7_ok nmX7 hown hK hP hD hS 0 rfl rfl 3 (by decide) (hts _ (gm 802 (by decide +kernel) rfl)) (fun _ h9 => h9) rfl hin rfl (tyX7_ok 3 (by decide)) rfl rfl (Nat.le_of_ble_eq_true rfl) dX7_init_17 (fun H locs hP hD hS => ?_)
  have hP : va_P D vwCl [(h0, .inr (7, [z0, .ref q7, z0, .ref q15, .null, .null, .null, z0, z0, .null, .null, .null, z0, .null, .null, z0, .null, z0, z0, z0, z0, z0, z0, z0, .null, .null, .null, z0, z0, .null, .null, z0, z0, .null, .null, .null, z0, .null, .null, z0, z0, z0, .null, z0, lz])), (q7, ar cI 40), (q15, ar cI 8)] H := hP
  have hD : va_D A [(h0, .inr (7, [z0, .ref q7, z0, .ref q15, .null, .null, .null, z0, z0, .null, .null, .null, z0, .null, .null, z0, .null, z0, z0, z0, z0, z0, z0, z0, .null, .null, .null, z0, z0, .null, .null, z0, z0, .null, .null, .null, z0, .null, .null, z0, z0, z0, .null, z0, lz])), (q7, ar cI 40), (q15, ar cI 8)] := hD
  refine lv_aload_n hx hb dX7_init_20 rfl (lv_at hl 0 rfl) ?_
  refine lv_bipush (v := Int32.ofInt 8) hx hb dX7_init_21 (by decide) ?_
  refine vnew_z (N := 8) hx hb hts hK hP hD hS hA (by decide) (by decide) (Nat.le_of_ble_eq_true rfl) (Nat.le_of_ble_eq_true rfl) (Nat.le_of_ble_eq_true rfl) dX7_init_23 (fun q23 H hP hD hS => ?_)
  have hP : va_P D vwCl [(h0, .inr (7, [z0, .ref q7, z0, .ref q15, .null, .null, .null, z0, z0, .null, .null, .null, z0, .null, .null, z0, .null, z0, z0, z0, z0, z0, z0, z0, .null, .null, .null, z0, z0, .null, .null, z0, z0, .null, .null, .null, z0, .null, .null, z0, z0, z0, .null, z0, lz])), (q7, ar cI 40), (q15, ar cI 8), (q23, ar cB 8)] H := hP
  have hD : va_D A [(h0, .inr (7, [z0, .ref q7, z0, .ref q15, .null, .null, .null, z0, z0, .null, .null, .null, z0, .null, .null, z0, .null, z0, z0, z0, z0, z0, z0, z0, .null, .null, .null, z0, z0, .null, .null, z0, z0, .null, .null, .null, z0, .null, .null, z0, z0, z0, .null, z0, lz])), (q7, ar cI 40), (q15, ar cI 8), (q23, ar cB 8)] := hD
  refine W.widen (k := 3) (n := 56) (Nat.le_of_ble_eq_true rfl) (Nat.le_of_ble_eq_true rfl) ?_
  refine va_putF (D := D) (ci := 7) (v := .ref q23) (ty := tyX7 4) (C := RX7) (T := TX7) (N := 45) hx hb hts layX7 tyX7 tyX7_ok nmX7 hown hK hP hD hS 0 rfl rfl 4 (by decide) (hts _ (gm 803 (by decide +kernel) rfl)) (fun _ h9 => h9) rfl hin rfl (tyX7_ok 4 (by decide)) rfl rfl (Nat.le_of_ble_eq_true rfl) dX7_init_25 (fun H locs hP hD hS => ?_)
  have hP : va_P D vwCl [(h0, .inr (7, [z0, .ref q7, z0, .ref q15, .ref q23, .null, .null, z0, z0, .null, .null, .null, z0, .null, .null, z0, .null, z0, z0, z0, z0, z0, z0, z0, .null, .null, .null, z0, z0, .null, .null, z0, z0, .null, .null, .null, z0, .null, .null, z0, z0, z0, .null, z0, lz])), (q7, ar cI 40), (q15, ar cI 8), (q23, ar cB 8)] H := hP
  have hD : va_D A [(h0, .inr (7, [z0, .ref q7, z0, .ref q15, .ref q23, .null, .null, z0, z0, .null, .null, .null, z0, .null, .null, z0, .null, z0, z0, z0, z0, z0, z0, z0, .null, .null, .null, z0, z0, .null, .null, z0, z0, .null, .null, .null, z0, .null, .null, z0, z0, z0, .null, z0, lz])), (q7, ar cI 40), (q15, ar cI 8), (q23, ar cB 8)] := hD
  refine lv_aload_n hx hb dX7_init_28 rfl (lv_at hl 0 rfl) ?_
  refine lv_sipush (v := Int32.ofInt 192) hx hb dX7_init_29 (by decide) ?_
  refine vnew_i (N := 192) hx hb hts hK hP hD hS hA (by decide) (by decide) (Nat.le_of_ble_eq_true rfl) (Nat.le_of_ble_eq_true rfl) (Nat.le_of_ble_eq_true rfl) dX7_init_32 (fun q32 H hP hD hS => ?_)
  have hP : va_P D vwCl [(h0, .inr (7, [z0, .ref q7, z0, .ref q15, .ref q23, .null, .null, z0, z0, .null, .null, .null, z0, .null, .null, z0, .null, z0, z0, z0, z0, z0, z0, z0, .null, .null, .null, z0, z0, .null, .null, z0, z0, .null, .null, .null, z0, .null, .null, z0, z0, z0, .null, z0, lz])), (q7, ar cI 40), (q15, ar cI 8), (q23, ar cB 8), (q32, ar cI 192)] H := hP
  have hD : va_D A [(h0, .inr (7, [z0, .ref q7, z0, .ref q15, .ref q23, .null, .null, z0, z0, .null, .null, .null, z0, .null, .null, z0, .null, z0, z0, z0, z0, z0, z0, z0, .null, .null, .null, z0, z0, .null, .null, z0, z0, .null, .null, .null, z0, .null, .null, z0, z0, z0, .null, z0, lz])), (q7, ar cI 40), (q15, ar cI 8), (q23, ar cB 8), (q32, ar cI 192)] := hD
  refine W.widen (k := 4) (n := 248) (Nat.le_of_ble_eq_true rfl) (Nat.le_of_ble_eq_true rfl) ?_
  refine va_putF (D := D) (ci := 7) (v := .ref q32) (ty := tyX7 5) (C := RX7) (T := TX7) (N := 45) hx hb hts layX7 tyX7 tyX7_ok nmX7 hown hK hP hD hS 0 rfl rfl 5 (by decide) (hts _ (gm 804 (by decide +kernel) rfl)) (fun _ h9 => h9) rfl hin rfl (tyX7_ok 5 (by decide)) rfl rfl (Nat.le_of_ble_eq_true rfl) dX7_init_34 (fun H locs hP hD hS => ?_)
  have hP : va_P D vwCl [(h0, .inr (7, [z0, .ref q7, z0, .ref q15, .ref q23, .ref q32, .null, z0, z0, .null, .null, .null, z0, .null, .null, z0, .null, z0, z0, z0, z0, z0, z0, z0, .null, .null, .null, z0, z0, .null, .null, z0, z0, .null, .null, .null, z0, .null, .null, z0, z0, z0, .null, z0, lz])), (q7, ar cI 40), (q15, ar cI 8), (q23, ar cB 8), (q32, ar cI 192)] H := hP
  have hD : va_D A [(h0, .inr (7, [z0, .ref q7, z0, .ref q15, .ref q23, .ref q32, .null, z0, z0, .null, .null, .null, z0, .null, .null, z0, .null, z0, z0, z0, z0, z0, z0, z0, .null, .null, .null, z0, z0, .null, .null, z0, z0, .null, .null, .null, z0, .null, .null, z0, z0, z0, .null, z0, lz])), (q7, ar cI 40), (q15, ar cI 8), (q23, ar cB 8), (q32, ar cI 192)] := hD
  refine lv_aload_n hx hb dX7_init_37 rfl (lv_at hl 0 rfl) ?_
  refine lv_bipush (v := Int32.ofInt 16) hx hb dX7_init_38 (by decide) ?_
  refine vnew_i (N := 16) hx hb hts hK hP hD hS hA (by decide) (by decide) (Nat.le_of_ble_eq_true rfl) (Nat.le_of_ble_eq_true rfl) (Nat.le_of_ble_eq_true rfl) dX7_init_40 (fun q40 H hP hD hS => ?_)
  have hP : va_P D vwCl [(h0, .inr (7, [z0, .ref q7, z0, .ref q15, .ref q23, .ref q32, .null, z0, z0, .null, .null, .null, z0, .null, .null, z0, .null, z0, z0, z0, z0, z0, z0, z0, .null, .null, .null, z0, z0, .null, .null, z0, z0, .null, .null, .null, z0, .null, .null, z0, z0, z0, .null, z0, lz])), (q7, ar cI 40), (q15, ar cI 8), (q23, ar cB 8), (q32, ar cI 192), (q40, ar cI 16)] H := hP
  have hD : va_D A [(h0, .inr (7, [z0, .ref q7, z0, .ref q15, .ref q23, .ref q32, .null, z0, z0, .null, .null, .null, z0, .null, .null, z0, .null, z0, z0, z0, z0, z0, z0, z0, .null, .null, .null, z0, z0, .null, .null, z0, z0, .null, .null, .null, z0, .null, .null, z0, z0, z0, .null, z0, lz])), (q7, ar cI 40), (q15, ar cI 8), (q23, ar cB 8), (q32, ar cI 192), (q40, ar cI 16)] := hD
  refine W.widen (k := 5) (n := 264) (Nat.le_of_ble_eq_true rfl) (Nat.le_of_ble_eq_true rfl) ?_
  refine va_putF (D := D) (ci := 7) (v := .ref q40) (ty := tyX7 6) (C := RX7) (T := TX7) (N := 45) hx hb hts layX7 tyX7 tyX7_ok nmX7 hown hK hP hD hS 0 rfl rfl 6 (by decide) (hts _ (gm 805 (by decide +kernel) rfl)) (fun _ h9 => h9) rfl hin rfl (tyX7_ok 6 (by decide)) rfl rfl (Nat.le_of_ble_eq_true rfl) dX7_init_42 (fun H locs hP hD hS => ?_)
  have hP : va_P D vwCl [(h0, .inr (7, [z0, .ref q7, z0, .ref q15, .ref q23, .ref q32, .ref q40, z0, z0, .null, .null, .null, z0, .null, .null, z0, .null, z0, z0, z0, z0, z0, z0, z0, .null, .null, .null, z0, z0, .null, .null, z0, z0, .null, .null, .null, z0, .null, .null, z0, z0, z0, .null, z0, lz])), (q7, ar cI 40), (q15, ar cI 8), (q23, ar cB 8), (q32, ar cI 192), (q40, ar cI 16)] H := hP
  have hD : va_D A [(h0, .inr (7, [z0, .ref q7, z0, .ref q15, .ref q23, .ref q32, .ref q40, z0, z0, .null, .null, .null, z0, .null, .null, z0, .null, z0, z0, z0, z0, z0, z0, z0, .null, .null, .null, z0, z0, .null, .null, z0, z0, .null, .null, .null, z0, .null, .null, z0, z0, z0, .null, z0, lz])), (q7, ar cI 40), (q15, ar cI 8), (q23, ar cB 8), (q32, ar cI 192), (q40, ar cI 16)] := hD
  refine lv_aload_n hx hb dX7_init_45 rfl (lv_at hl 0 rfl) ?_
  refine lv_bipush (v := Int32.ofInt 40) hx hb dX7_init_46 (by decide) ?_
  refine vnew_i (N := 40) hx hb hts hK hP hD hS hA (by decide) (by decide) (Nat.le_of_ble_eq_true rfl) (Nat.le_of_ble_eq_true rfl) (Nat.le_of_ble_eq_true rfl) dX7_init_48 (fun q48 H hP hD hS => ?_)
  have hP : va_P D vwCl [(h0, .inr (7, [z0, .ref q7, z0, .ref q15, .ref q23, .ref q32, .ref q40, z0, z0, .null, .null, .null, z0, .null, .null, z0, .null, z0, z0, z0, z0, z0, z0, z0, .null, .null, .null, z0, z0, .null, .null, z0, z0, .null, .null, .null, z0, .null, .null, z0, z0, z0, .null, z0, lz])), (q7, ar cI 40), (q15, ar cI 8), (q23, ar cB 8), (q32, ar cI 192), (q40, ar cI 16), (q48, ar cI 40)] H := hP
  have hD : va_D A [(h0, .inr (7, [z0, .ref q7, z0, .ref q15, .ref q23, .ref q32, .ref q40, z0, z0, .null, .null, .null, z0, .null, .null, z0, .null, z0, z0, z0, z0, z0, z0, z0, .null, .null, .null, z0, z0, .null, .null, z0, z0, .null, .null, .null, z0, .null, .null, z0, z0, z0, .null, z0, lz])), (q7, ar cI 40), (q15, ar cI 8), (q23, ar cB 8), (q32, ar cI 192), (q40, ar cI 16), (q48, ar cI 40)] := hD
  refine W.widen (k := 6) (n := 304) (Nat.le_of_ble_eq_true rfl) (Nat.le_of_ble_eq_true rfl) ?_
  refine va_putF (D := D) (ci := 7) (v := .ref q48) (ty := tyX7 9) (C := RX7) (T := TX7) (N := 45) hx hb hts layX7 tyX7 tyX7_ok nmX7 hown hK hP hD hS 0 rfl rfl 9 (by decide) (hts _ (gm 808 (by decide +kernel) rfl)) (fun _ h9 => h9) rfl hin rfl (tyX7_ok 9 (by decide)) rfl rfl (Nat.le_of_ble_eq_true rfl) dX7_init_50 (fun H locs hP hD hS => ?_)
  have hP : va_P D vwCl [(h0, .inr (7, [z0, .ref q7, z0, .ref q15, .ref q23, .ref q32, .ref q40, z0, z0, .ref q48, .null, .null, z0, .null, .null, z0, .null, z0, z0, z0, z0, z0, z0, z0, .null, .null, .null, z0, z0, .null, .null, z0, z0, .null, .null, .null, z0, .null, .null, z0, z0, z0, .null, z0, lz])), (q7, ar cI 40), (q15, ar cI 8), (q23, ar cB 8), (q32, ar cI 192), (q40, ar cI 16), (q48, ar cI 40)] H := hP
  have hD : va_D A [(h0, .inr (7, [z0, .ref q7, z0, .ref q15, .ref q23, .ref q32, .ref q40, z0, z0, .ref q48, .null, .null, z0, .null, .null, z0, .null, z0, z0, z0, z0, z0, z0, z0, .null, .null, .null, z0, z0, .null, .null, z0, z0, .null, .null, .null, z0, .null, .null, z0, z0, z0, .null, z0, lz])), (q7, ar cI 40), (q15, ar cI 8), (q23, ar cB 8), (q32, ar cI 192), (q40, ar cI 16), (q48, ar cI 40)] := hD
  refine lv_aload_n hx hb dX7_init_53 rfl (lv_at hl 0 rfl) ?_
  refine lv_bipush (v := Int32.ofInt 40) hx hb dX7_init_54 (by decide) ?_
  refine vnew_i (N := 40) hx hb hts hK hP hD hS hA (by decide) (by decide) (Nat.le_of_ble_eq_true rfl) (Nat.le_of_ble_eq_true rfl) (Nat.le_of_ble_eq_true rfl) dX7_init_56 (fun q56 H hP hD hS => ?_)
  have hP : va_P D vwCl [(h0, .inr (7, [z0, .ref q7, z0, .ref q15, .ref q23, .ref q32, .ref q40, z0, z0, .ref q48, .null, .null, z0, .null, .null, z0, .null, z0, z0, z0, z0, z0, z0, z0, .null, .null, .null, z0, z0, .null, .null, z0, z0, .null, .null, .null, z0, .null, .null, z0, z0, z0, .null, z0, lz])), (q7, ar cI 40), (q15, ar cI 8), (q23, ar cB 8), (q32, ar cI 192), (q40, ar cI 16), (q48, ar cI 40), (q56, ar cI 40)] H := hP
  have hD : va_D A [(h0, .inr (7, [z0, .ref q7, z0, .ref q15, .ref q23, .ref q32, .ref q40, z0, z0, .ref q48, .null, .null, z0, .null, .null, z0, .null, z0, z0, z0, z0, z0, z0, z0, .null, .null, .null, z0, z0, .null, .null, z0, z0, .null, .null, .null, z0, .null, .null, z0, z0, z0, .null, z0, lz])), (q7, ar cI 40), (q15, ar cI 8), (q23, ar cB 8), (q32, ar cI 192), (q40, ar cI 16), (q48, ar cI 40), (q56, ar cI 40)] := hD
  refine W.widen (k := 7) (n := 344) (Nat.le_of_ble_eq_true rfl) (Nat.le_of_ble_eq_true rfl) ?_
  refine va_putF (D := D) (ci := 7) (v := .ref q56) (ty := tyX7 10) (C := RX7) (T := TX7) (N := 45) hx hb hts layX7 tyX7 tyX7_ok nmX7 hown hK hP hD hS 0 rfl rfl 10 (by decide) (hts _ (gm 809 (by decide +kernel) rfl)) (fun _ h9 => h9) rfl hin rfl (tyX7_ok 10 (by decide)) rfl rfl (Nat.le_of_ble_eq_true rfl) dX7_init_58 (fun H locs hP hD hS => ?_)
  have hP : va_P D vwCl [(h0, .inr (7, [z0, .ref q7, z0, .ref q15, .ref q23, .ref q32, .ref q40, z0, z0, .ref q48, .ref q56, .null, z0, .null, .null, z0, .null, z0, z0, z0, z0, z0, z0, z0, .null, .null, .null, z0, z0, .null, .null, z0, z0, .null, .null, .null, z0, .null, .null, z0, z0, z0, .null, z0, lz])), (q7, ar cI 40), (q15, ar cI 8), (q23, ar cB 8), (q32, ar cI 192), (q40, ar cI 16), (q48, ar cI 40), (q56, ar cI 40)] H := hP
  have hD : va_D A [(h0, .inr (7, [z0, .ref q7, z0, .ref q15, .ref q23, .ref q32, .ref q40, z0, z0, .ref q48, .ref q56, .null, z0, .null, .null, z0, .null, z0, z0, z0, z0, z0, z0, z0, .null, .null, .null, z0, z0, .null, .null, z0, z0, .null, .null, .null, z0, .null, .null, z0, z0, z0, .null, z0, lz])), (q7, ar cI 40), (q15, ar cI 8), (q23, ar cB 8), (q32, ar cI 192), (q40, ar cI 16), (q48, ar cI 40), (q56, ar cI 40)] := hD
  refine lv_aload_n hx hb dX7_init_61 rfl (lv_at hl 0 rfl) ?_
  refine lv_sipush (v := Int32.ofInt 240) hx hb dX7_init_62 (by decide) ?_
  refine vnew_i (N := 240) hx hb hts hK hP hD hS hA (by decide) (by decide) (Nat.le_of_ble_eq_true rfl) (Nat.le_of_ble_eq_true rfl) (Nat.le_of_ble_eq_true rfl) dX7_init_65 (fun q65 H hP hD hS => ?_)
  have hP : va_P D vwCl [(h0, .inr (7, [z0, .ref q7, z0, .ref q15, .ref q23, .ref q32, .ref q40, z0, z0, .ref q48, .ref q56, .null, z0, .null, .null, z0, .null, z0, z0, z0, z0, z0, z0, z0, .null, .null, .null, z0, z0, .null, .null, z0, z0, .null, .null, .null, z0, .null, .null, z0, z0, z0, .null, z0, lz])), (q7, ar cI 40), (q15, ar cI 8), (q23, ar cB 8), (q32, ar cI 192), (q40, ar cI 16), (q48, ar cI 40), (q56, ar cI 40), (q65, ar cI 240)] H := hP
  have hD : va_D A [(h0, .inr (7, [z0, .ref q7, z0, .ref q15, .ref q23, .ref q32, .ref q40, z0, z0, .ref q48, .ref q56, .null, z0, .null, .null, z0, .null, z0, z0, z0, z0, z0, z0, z0, .null, .null, .null, z0, z0, .null, .null, z0, z0, .null, .null, .null, z0, .null, .null, z0, z0, z0, .null, z0, lz])), (q7, ar cI 40), (q15, ar cI 8), (q23, ar cB 8), (q32, ar cI 192), (q40, ar cI 16), (q48, ar cI 40), (q56, ar cI 40), (q65, ar cI 240)] := hD
  refine W.widen (k := 8) (n := 584) (Nat.le_of_ble_eq_true rfl) (Nat.le_of_ble_eq_true rfl) ?_
  refine va_putF (D := D) (ci := 7) (v := .ref q65) (ty := tyX7 11) (C := RX7) (T := TX7) (N := 45) hx hb hts layX7 tyX7 tyX7_ok nmX7 hown hK hP hD hS 0 rfl rfl 11 (by decide) (hts _ (gm 810 (by decide +kernel) rfl)) (fun _ h9 => h9) rfl hin rfl (tyX7_ok 11 (by decide)) rfl rfl (Nat.le_of_ble_eq_true rfl) dX7_init_67 (fun H locs hP hD hS => ?_)
  have hP : va_P D vwCl [(h0, .inr (7, [z0, .ref q7, z0, .ref q15, .ref q23, .ref q32, .ref q40, z0, z0, .ref q48, .ref q56, .ref q65, z0, .null, .null, z0, .null, z0, z0, z0, z0, z0, z0, z0, .null, .null, .null, z0, z0, .null, .null, z0, z0, .null, .null, .null, z0, .null, .null, z0, z0, z0, .null, z0, lz])), (q7, ar cI 40), (q15, ar cI 8), (q23, ar cB 8), (q32, ar cI 192), (q40, ar cI 16), (q48, ar cI 40), (q56, ar cI 40), (q65, ar cI 240)] H := hP
  have hD : va_D A [(h0, .inr (7, [z0, .ref q7, z0, .ref q15, .ref q23, .ref q32, .ref q40, z0, z0, .ref q48, .ref q56, .ref q65, z0, .null, .null, z0, .null, z0, z0, z0, z0, z0, z0, z0, .null, .null, .null, z0, z0, .null, .null, z0, z0, .null, .null, .null, z0, .null, .null, z0, z0, z0, .null, z0, lz])), (q7, ar cI 40), (q15, ar cI 8), (q23, ar cB 8), (q32, ar cI 192), (q40, ar cI 16), (q48, ar cI 40), (q56, ar cI 40), (q65, ar cI 240)] := hD
  refine lv_aload_n hx hb dX7_init_70 rfl (lv_at hl 0 rfl) ?_
  refine lv_sipush (v := Int32.ofInt 1920) hx hb dX7_init_71 (by decide) ?_
  refine vnew_i (N := 1920) hx hb hts hK hP hD hS hA (by decide) (by decide) (Nat.le_of_ble_eq_true rfl) (Nat.le_of_ble_eq_true rfl) (Nat.le_of_ble_eq_true rfl) dX7_init_74 (fun q74 H hP hD hS => ?_)
  have hP : va_P D vwCl [(h0, .inr (7, [z0, .ref q7, z0, .ref q15, .ref q23, .ref q32, .ref q40, z0, z0, .ref q48, .ref q56, .ref q65, z0, .null, .null, z0, .null, z0, z0, z0, z0, z0, z0, z0, .null, .null, .null, z0, z0, .null, .null, z0, z0, .null, .null, .null, z0, .null, .null, z0, z0, z0, .null, z0, lz])), (q7, ar cI 40), (q15, ar cI 8), (q23, ar cB 8), (q32, ar cI 192), (q40, ar cI 16), (q48, ar cI 40), (q56, ar cI 40), (q65, ar cI 240), (q74, ar cI 1920)] H := hP
  have hD : va_D A [(h0, .inr (7, [z0, .ref q7, z0, .ref q15, .ref q23, .ref q32, .ref q40, z0, z0, .ref q48, .ref q56, .ref q65, z0, .null, .null, z0, .null, z0, z0, z0, z0, z0, z0, z0, .null, .null, .null, z0, z0, .null, .null, z0, z0, .null, .null, .null, z0, .null, .null, z0, z0, z0, .null, z0, lz])), (q7, ar cI 40), (q15, ar cI 8), (q23, ar cB 8), (q32, ar cI 192), (q40, ar cI 16), (q48, ar cI 40), (q56, ar cI 40), (q65, ar cI 240), (q74, ar cI 1920)] := hD
  refine W.widen (k := 9) (n := 2504) (Nat.le_of_ble_eq_true rfl) (Nat.le_of_ble_eq_true rfl) ?_
  refine va_putF (D := D) (ci := 7) (v := .ref q74) (ty := tyX7 13) (C := RX7) (T := TX7) (N := 45) hx hb hts layX7 tyX7 tyX7_ok nmX7 hown hK hP hD hS 0 rfl rfl 13 (by decide) (hts _ (gm 812 (by decide +kernel) rfl)) (fun _ h9 => h9) rfl hin rfl (tyX7_ok 13 (by decide)) rfl rfl (Nat.le_of_ble_eq_true rfl) dX7_init_76 (fun H locs hP hD hS => ?_)
  have hP : va_P D vwCl [(h0, .inr (7, [z0, .ref q7, z0, .ref q15, .ref q23, .ref q32, .ref q40, z0, z0, .ref q48, .ref q56, .ref q65, z0, .ref q74, .null, z0, .null, z0, z0, z0, z0, z0, z0, z0, .null, .null, .null, z0, z0, .null, .null, z0, z0, .null, .null, .null, z0, .null, .null, z0, z0, z0, .null, z0, lz])), (q7, ar cI 40), (q15, ar cI 8), (q23, ar cB 8), (q32, ar cI 192), (q40, ar cI 16), (q48, ar cI 40), (q56, ar cI 40), (q65, ar cI 240), (q74, ar cI 1920)] H := hP
  have hD : va_D A [(h0, .inr (7, [z0, .ref q7, z0, .ref q15, .ref q23, .ref q32, .ref q40, z0, z0, .ref q48, .ref q56, .ref q65, z0, .ref q74, .null, z0, .null, z0, z0, z0, z0, z0, z0, z0, .null, .null, .null, z0, z0, .null, .null, z0, z0, .null, .null, .null, z0, .null, .null, z0, z0, z0, .null, z0, lz])), (q7, ar cI 40), (q15, ar cI 8), (q23, ar cB 8), (q32, ar cI 192), (q40, ar cI 16), (q48, ar cI 40), (q56, ar cI 40), (q65, ar cI 240), (q74, ar cI 1920)] := hD
  refine lv_aload_n hx hb dX7_init_79 rfl (lv_at hl 0 rfl) ?_
  refine lv_sipush (v := Int32.ofInt 160) hx hb dX7_init_80 (by decide) ?_
  refine vnew_i (N := 160) hx hb hts hK hP hD hS hA (by decide) (by decide) (Nat.le_of_ble_eq_true rfl) (Nat.le_of_ble_eq_true rfl) (Nat.le_of_ble_eq_true rfl) dX7_init_83 (fun q83 H hP hD hS => ?_)
  have hP : va_P D vwCl [(h0, .inr (7, [z0, .ref q7, z0, .ref q15, .ref q23, .ref q32, .ref q40, z0, z0, .ref q48, .ref q56, .ref q65, z0, .ref q74, .null, z0, .null, z0, z0, z0, z0, z0, z0, z0, .null, .null, .null, z0, z0, .null, .null, z0, z0, .null, .null, .null, z0, .null, .null, z0, z0, z0, .null, z0, lz])), (q7, ar cI 40), (q15, ar cI 8), (q23, ar cB 8), (q32, ar cI 192), (q40, ar cI 16), (q48, ar cI 40), (q56, ar cI 40), (q65, ar cI 240), (q74, ar cI 1920), (q83, ar cI 160)] H := hP
  have hD : va_D A [(h0, .inr (7, [z0, .ref q7, z0, .ref q15, .ref q23, .ref q32, .ref q40, z0, z0, .ref q48, .ref q56, .ref q65, z0, .ref q74, .null, z0, .null, z0, z0, z0, z0, z0, z0, z0, .null, .null, .null, z0, z0, .null, .null, z0, z0, .null, .null, .null, z0, .null, .null, z0, z0, z0, .null, z0, lz])), (q7, ar cI 40), (q15, ar cI 8), (q23, ar cB 8), (q32, ar cI 192), (q40, ar cI 16), (q48, ar cI 40), (q56, ar cI 40), (q65, ar cI 240), (q74, ar cI 1920), (q83, ar cI 160)] := hD
  refine W.widen (k := 10) (n := 2664) (Nat.le_of_ble_eq_true rfl) (Nat.le_of_ble_eq_true rfl) ?_
  refine va_putF (D := D) (ci := 7) (v := .ref q83) (ty := tyX7 14) (C := RX7) (T := TX7) (N := 45) hx hb hts layX7 tyX7 tyX7_ok nmX7 hown hK hP hD hS 0 rfl rfl 14 (by decide) (hts _ (gm 813 (by decide +kernel) rfl)) (fun _ h9 => h9) rfl hin rfl (tyX7_ok 14 (by decide)) rfl rfl (Nat.le_of_ble_eq_true rfl) dX7_init_85 (fun H locs hP hD hS => ?_)
  have hP : va_P D vwCl [(h0, .inr (7, [z0, .ref q7, z0, .ref q15, .ref q23, .ref q32, .ref q40, z0, z0, .ref q48, .ref q56, .ref q65, z0, .ref q74, .ref q83, z0, .null, z0, z0, z0, z0, z0, z0, z0, .null, .null, .null, z0, z0, .null, .null, z0, z0, .null, .null, .null, z0, .null, .null, z0, z0, z0, .null, z0, lz])), (q7, ar cI 40), (q15, ar cI 8), (q23, ar cB 8), (q32, ar cI 192), (q40, ar cI 16), (q48, ar cI 40), (q56, ar cI 40), (q65, ar cI 240), (q74, ar cI 1920), (q83, ar cI 160)] H := hP
  have hD : va_D A [(h0, .inr (7, [z0, .ref q7, z0, .ref q15, .ref q23, .ref q32, .ref q40, z0, z0, .ref q48, .ref q56, .ref q65, z0, .ref q74, .ref q83, z0, .null, z0, z0, z0, z0, z0, z0, z0, .null, .null, .null, z0, z0, .null, .null, z0, z0, .null, .null, .null, z0, .null, .null, z0, z0, z0, .null, z0, lz])), (q7, ar cI 40), (q15, ar cI 8), (q23, ar cB 8), (q32, ar cI 192), (q40, ar cI 16), (q48, ar cI 40), (q56, ar cI 40), (q65, ar cI 240), (q74, ar cI 1920), (q83, ar cI 160)] := hD
  refine lv_aload_n hx hb dX7_init_88 rfl (lv_at hl 0 rfl) ?_
  refine lv_bipush (v := Int32.ofInt 6) hx hb dX7_init_89 (by decide) ?_
  refine vnew_i (N := 6) hx hb hts hK hP hD hS hA (by decide) (by decide) (Nat.le_of_ble_eq_true rfl) (Nat.le_of_ble_eq_true rfl) (Nat.le_of_ble_eq_true rfl) dX7_init_91 (fun q91 H hP hD hS => ?_)
  have hP : va_P D vwCl [(h0, .inr (7, [z0, .ref q7, z0, .ref q15, .ref q23, .ref q32, .ref q40, z0, z0, .ref q48, .ref q56, .ref q65, z0, .ref q74, .ref q83, z0, .null, z0, z0, z0, z0, z0, z0, z0, .null, .null, .null, z0, z0, .null, .null, z0, z0, .null, .null, .null, z0, .null, .null, z0, z0, z0, .null, z0, lz])), (q7, ar cI 40), (q15, ar cI 8), (q23, ar cB 8), (q32, ar cI 192), (q40, ar cI 16), (q48, ar cI 40), (q56, ar cI 40), (q65, ar cI 240), (q74, ar cI 1920), (q83, ar cI 160), (q91, ar cI 6)] H := hP
  have hD : va_D A [(h0, .inr (7, [z0, .ref q7, z0, .ref q15, .ref q23, .ref q32, .ref q40, z0, z0, .ref q48, .ref q56, .ref q65, z0, .ref q74, .ref q83, z0, .null, z0, z0, z0, z0, z0, z0, z0, .null, .null, .null, z0, z0, .null, .null, z0, z0, .null, .null, .null, z0, .null, .null, z0, z0, z0, .null, z0, lz])), (q7, ar cI 40), (q15, ar cI 8), (q23, ar cB 8), (q32, ar cI 192), (q40, ar cI 16), (q48, ar cI 40), (q56, ar cI 40), (q65, ar cI 240), (q74, ar cI 1920), (q83, ar cI 160), (q91, ar cI 6)] := hD
  refine W.widen (k := 11) (n := 2670) (Nat.le_of_ble_eq_true rfl) (Nat.le_of_ble_eq_true rfl) ?_
  refine va_putF (D := D) (ci := 7) (v := .ref q91) (ty := tyX7 16) (C := RX7) (T := TX7) (N := 45) hx hb hts layX7 tyX7 tyX7_ok nmX7 hown hK hP hD hS 0 rfl rfl 16 (by decide) (hts _ (gm 815 (by decide +kernel) rfl)) (fun _ h9 => h9) rfl hin rfl (tyX7_ok 16 (by decide)) rfl rfl (Nat.le_of_ble_eq_true rfl) dX7_init_93 (fun H locs hP hD hS => ?_)
  have hP : va_P D vwCl [(h0, .inr (7, [z0, .ref q7, z0, .ref q15, .ref q23, .ref q32, .ref q40, z0, z0, .ref q48, .ref q56, .ref q65, z0, .ref q74, .ref q83, z0, .ref q91, z0, z0, z0, z0, z0, z0, z0, .null, .null, .null, z0, z0, .null, .null, z0, z0, .null, .null, .null, z0, .null, .null, z0, z0, z0, .null, z0, lz])), (q7, ar cI 40), (q15, ar cI 8), (q23, ar cB 8), (q32, ar cI 192), (q40, ar cI 16), (q48, ar cI 40), (q56, ar cI 40), (q65, ar cI 240), (q74, ar cI 1920), (q83, ar cI 160), (q91, ar cI 6)] H := hP
  have hD : va_D A [(h0, .inr (7, [z0, .ref q7, z0, .ref q15, .ref q23, .ref q32, .ref q40, z0, z0, .ref q48, .ref q56, .ref q65, z0, .ref q74, .ref q83, z0, .ref q91, z0, z0, z0, z0, z0, z0, z0, .null, .null, .null, z0, z0, .null, .null, z0, z0, .null, .null, .null, z0, .null, .null, z0, z0, z0, .null, z0, lz])), (q7, ar cI 40), (q15, ar cI 8), (q23, ar cB 8), (q32, ar cI 192), (q40, ar cI 16), (q48, ar cI 40), (q56, ar cI 40), (q65, ar cI 240), (q74, ar cI 1920), (q83, ar cI 160), (q91, ar cI 6)] := hD
  refine lv_aload_n hx hb dX7_init_96 rfl (lv_at hl 0 rfl) ?_
  refine lv_bipush (v := Int32.ofInt 6) hx hb dX7_init_97 (by decide) ?_
  refine vnew_i (N := 6) hx hb hts hK hP hD hS hA (by decide) (by decide) (Nat.le_of_ble_eq_true rfl) (Nat.le_of_ble_eq_true rfl) (Nat.le_of_ble_eq_true rfl) dX7_init_99 (fun q99 H hP hD hS => ?_)
  have hP : va_P D vwCl [(h0, .inr (7, [z0, .ref q7, z0, .ref q15, .ref q23, .ref q32, .ref q40, z0, z0, .ref q48, .ref q56, .ref q65, z0, .ref q74, .ref q83, z0, .ref q91, z0, z0, z0, z0, z0, z0, z0, .null, .null, .null, z0, z0, .null, .null, z0, z0, .null, .null, .null, z0, .null, .null, z0, z0, z0, .null, z0, lz])), (q7, ar cI 40), (q15, ar cI 8), (q23, ar cB 8), (q32, ar cI 192), (q40, ar cI 16), (q48, ar cI 40), (q56, ar cI 40), (q65, ar cI 240), (q74, ar cI 1920), (q83, ar cI 160), (q91, ar cI 6), (q99, ar cI 6)] H := hP
  have hD : va_D A [(h0, .inr (7, [z0, .ref q7, z0, .ref q15, .ref q23, .ref q32, .ref q40, z0, z0, .ref q48, .ref q56, .ref q65, z0, .ref q74, .ref q83, z0, .ref q91, z0, z0, z0, z0, z0, z0, z0, .null, .null, .null, z0, z0, .null, .null, z0, z0, .null, .null, .null, z0, .null, .null, z0, z0, z0, .null, z0, lz])), (q7, ar cI 40), (q15, ar cI 8), (q23, ar cB 8), (q32, ar cI 192), (q40, ar cI 16), (q48, ar cI 40), (q56, ar cI 40), (q65, ar cI 240), (q74, ar cI 1920), (q83, ar cI 160), (q91, ar cI 6), (q99, ar cI 6)] := hD
  refine W.widen (k := 12) (n := 2676) (Nat.le_of_ble_eq_true rfl) (Nat.le_of_ble_eq_true rfl) ?_
  refine va_putF (D := D) (ci := 7) (v := .ref q99) (ty := tyX7 24) (C := RX7) (T := TX7) (N := 45) hx hb hts layX7 tyX7 tyX7_ok nmX7 hown hK hP hD hS 0 rfl rfl 24 (by decide) (hts _ (gm 823 (by decide +kernel) rfl)) (fun _ h9 => h9) rfl hin rfl (tyX7_ok 24 (by decide)) rfl rfl (Nat.le_of_ble_eq_true rfl) dX7_init_101 (fun H locs hP hD hS => ?_)
  have hP : va_P D vwCl [(h0, .inr (7, [z0, .ref q7, z0, .ref q15, .ref q23, .ref q32, .ref q40, z0, z0, .ref q48, .ref q56, .ref q65, z0, .ref q74, .ref q83, z0, .ref q91, z0, z0, z0, z0, z0, z0, z0, .ref q99, .null, .null, z0, z0, .null, .null, z0, z0, .null, .null, .null, z0, .null, .null, z0, z0, z0, .null, z0, lz])), (q7, ar cI 40), (q15, ar cI 8), (q23, ar cB 8), (q32, ar cI 192), (q40, ar cI 16), (q48, ar cI 40), (q56, ar cI 40), (q65, ar cI 240), (q74, ar cI 1920), (q83, ar cI 160), (q91, ar cI 6), (q99, ar cI 6)] H := hP
  have hD : va_D A [(h0, .inr (7, [z0, .ref q7, z0, .ref q15, .ref q23, .ref q32, .ref q40, z0, z0, .ref q48, .ref q56, .ref q65, z0, .ref q74, .ref q83, z0, .ref q91, z0, z0, z0, z0, z0, z0, z0, .ref q99, .null, .null, z0, z0, .null, .null, z0, z0, .null, .null, .null, z0, .null, .null, z0, z0, z0, .null, z0, lz])), (q7, ar cI 40), (q15, ar cI 8), (q23, ar cB 8), (q32, ar cI 192), (q40, ar cI 16), (q48, ar cI 40), (q56, ar cI 40), (q65, ar cI 240), (q74, ar cI 1920), (q83, ar cI 160), (q91, ar cI 6), (q99, ar cI 6)] := hD
  refine lv_aload_n hx hb dX7_init_104 rfl (lv_at hl 0 rfl) ?_
  refine lv_bipush (v := Int32.ofInt 6) hx hb dX7_init_105 (by decide) ?_
  refine vnew_i (N := 6) hx hb hts hK hP hD hS hA (by decide) (by decide) (Nat.le_of_ble_eq_true rfl) (Nat.le_of_ble_eq_true rfl) (Nat.le_of_ble_eq_true rfl) dX7_init_107 (fun q107 H hP hD hS => ?_)
  have hP : va_P D vwCl [(h0, .inr (7, [z0, .ref q7, z0, .ref q15, .ref q23, .ref q32, .ref q40, z0, z0, .ref q48, .ref q56, .ref q65, z0, .ref q74, .ref q83, z0, .ref q91, z0, z0, z0, z0, z0, z0, z0, .ref q99, .null, .null, z0, z0, .null, .null, z0, z0, .null, .null, .null, z0, .null, .null, z0, z0, z0, .null, z0, lz])), (q7, ar cI 40), (q15, ar cI 8), (q23, ar cB 8), (q32, ar cI 192), (q40, ar cI 16), (q48, ar cI 40), (q56, ar cI 40), (q65, ar cI 240), (q74, ar cI 1920), (q83, ar cI 160), (q91, ar cI 6), (q99, ar cI 6), (q107, ar cI 6)] H := hP
  have hD : va_D A [(h0, .inr (7, [z0, .ref q7, z0, .ref q15, .ref q23, .ref q32, .ref q40, z0, z0, .ref q48, .ref q56, .ref q65, z0, .ref q74, .ref q83, z0, .ref q91, z0, z0, z0, z0, z0, z0, z0, .ref q99, .null, .null, z0, z0, .null, .null, z0, z0, .null, .null, .null, z0, .null, .null, z0, z0, z0, .null, z0, lz])), (q7, ar cI 40), (q15, ar cI 8), (q23, ar cB 8), (q32, ar cI 192), (q40, ar cI 16), (q48, ar cI 40), (q56, ar cI 40), (q65, ar cI 240), (q74, ar cI 1920), (q83, ar cI 160), (q91, ar cI 6), (q99, ar cI 6), (q107, ar cI 6)] := hD
  refine W.widen (k := 13) (n := 2682) (Nat.le_of_ble_eq_true rfl) (Nat.le_of_ble_eq_true rfl) ?_
  refine va_putF (D := D) (ci := 7) (v := .ref q107) (ty := tyX7 25) (C := RX7) (T := TX7) (N := 45) hx hb hts layX7 tyX7 tyX7_ok nmX7 hown hK hP hD hS 0 rfl rfl 25 (by decide) (hts _ (gm 824 (by decide +kernel) rfl)) (fun _ h9 => h9) rfl hin rfl (tyX7_ok 25 (by decide)) rfl rfl (Nat.le_of_ble_eq_true rfl) dX7_init_109 (fun H locs hP hD hS => ?_)
  have hP : va_P D vwCl [(h0, .inr (7, [z0, .ref q7, z0, .ref q15, .ref q23, .ref q32, .ref q40, z0, z0, .ref q48, .ref q56, .ref q65, z0, .ref q74, .ref q83, z0, .ref q91, z0, z0, z0, z0, z0, z0, z0, .ref q99, .ref q107, .null, z0, z0, .null, .null, z0, z0, .null, .null, .null, z0, .null, .null, z0, z0, z0, .null, z0, lz])), (q7, ar cI 40), (q15, ar cI 8), (q23, ar cB 8), (q32, ar cI 192), (q40, ar cI 16), (q48, ar cI 40), (q56, ar cI 40), (q65, ar cI 240), (q74, ar cI 1920), (q83, ar cI 160), (q91, ar cI 6), (q99, ar cI 6), (q107, ar cI 6)] H := hP
  have hD : va_D A [(h0, .inr (7, [z0, .ref q7, z0, .ref q15, .ref q23, .ref q32, .ref q40, z0, z0, .ref q48, .ref q56, .ref q65, z0, .ref q74, .ref q83, z0, .ref q91, z0, z0, z0, z0, z0, z0, z0, .ref q99, .ref q107, .null, z0, z0, .null, .null, z0, z0, .null, .null, .null, z0, .null, .null, z0, z0, z0, .null, z0, lz])), (q7, ar cI 40), (q15, ar cI 8), (q23, ar cB 8), (q32, ar cI 192), (q40, ar cI 16), (q48, ar cI 40), (q56, ar cI 40), (q65, ar cI 240), (q74, ar cI 1920), (q83, ar cI 160), (q91, ar cI 6), (q99, ar cI 6), (q107, ar cI 6)] := hD
  refine lv_aload_n hx hb dX7_init_112 rfl (lv_at hl 0 rfl) ?_
  refine lv_bipush (v := Int32.ofInt 36) hx hb dX7_init_113 (by decide) ?_
  refine vnew_i (N := 36) hx hb hts hK hP hD hS hA (by decide) (by decide) (Nat.le_of_ble_eq_true rfl) (Nat.le_of_ble_eq_true rfl) (Nat.le_of_ble_eq_true rfl) dX7_init_115 (fun q115 H hP hD hS => ?_)
  have hP : va_P D vwCl [(h0, .inr (7, [z0, .ref q7, z0, .ref q15, .ref q23, .ref q32, .ref q40, z0, z0, .ref q48, .ref q56, .ref q65, z0, .ref q74, .ref q83, z0, .ref q91, z0, z0, z0, z0, z0, z0, z0, .ref q99, .ref q107, .null, z0, z0, .null, .null, z0, z0, .null, .null, .null, z0, .null, .null, z0, z0, z0, .null, z0, lz])), (q7, ar cI 40), (q15, ar cI 8), (q23, ar cB 8), (q32, ar cI 192), (q40, ar cI 16), (q48, ar cI 40), (q56, ar cI 40), (q65, ar cI 240), (q74, ar cI 1920), (q83, ar cI 160), (q91, ar cI 6), (q99, ar cI 6), (q107, ar cI 6), (q115, ar cI 36)] H := hP
  have hD : va_D A [(h0, .inr (7, [z0, .ref q7, z0, .ref q15, .ref q23, .ref q32, .ref q40, z0, z0, .ref q48, .ref q56, .ref q65, z0, .ref q74, .ref q83, z0, .ref q91, z0, z0, z0, z0, z0, z0, z0, .ref q99, .ref q107, .null, z0, z0, .null, .null, z0, z0, .null, .null, .null, z0, .null, .null, z0, z0, z0, .null, z0, lz])), (q7, ar cI 40), (q15, ar cI 8), (q23, ar cB 8), (q32, ar cI 192), (q40, ar cI 16), (q48, ar cI 40), (q56, ar cI 40), (q65, ar cI 240), (q74, ar cI 1920), (q83, ar cI 160), (q91, ar cI 6), (q99, ar cI 6), (q107, ar cI 6), (q115, ar cI 36)] := hD
  refine W.widen (k := 14) (n := 2718) (Nat.le_of_ble_eq_true rfl) (Nat.le_of_ble_eq_true rfl) ?_
  refine va_putF (D := D) (ci := 7) (v := .ref q115) (ty := tyX7 26) (C := RX7) (T := TX7) (N := 45) hx hb hts layX7 tyX7 tyX7_ok nmX7 hown hK hP hD hS 0 rfl rfl 26 (by decide) (hts _ (gm 825 (by decide +kernel) rfl)) (fun _ h9 => h9) rfl hin rfl (tyX7_ok 26 (by decide)) rfl rfl (Nat.le_of_ble_eq_true rfl) dX7_init_117 (fun H locs hP hD hS => ?_)
  have hP : va_P D vwCl [(h0, .inr (7, [z0, .ref q7, z0, .ref q15, .ref q23, .ref q32, .ref q40, z0, z0, .ref q48, .ref q56, .ref q65, z0, .ref q74, .ref q83, z0, .ref q91, z0, z0, z0, z0, z0, z0, z0, .ref q99, .ref q107, .ref q115, z0, z0, .null, .null, z0, z0, .null, .null, .null, z0, .null, .null, z0, z0, z0, .null, z0, lz])), (q7, ar cI 40), (q15, ar cI 8), (q23, ar cB 8), (q32, ar cI 192), (q40, ar cI 16), (q48, ar cI 40), (q56, ar cI 40), (q65, ar cI 240), (q74, ar cI 1920), (q83, ar cI 160), (q91, ar cI 6), (q99, ar cI 6), (q107, ar cI 6), (q115, ar cI 36)] H := hP
  have hD : va_D A [(h0, .inr (7, [z0, .ref q7, z0, .ref q15, .ref q23, .ref q32, .ref q40, z0, z0, .ref q48, .ref q56, .ref q65, z0, .ref q74, .ref q83, z0, .ref q91, z0, z0, z0, z0, z0, z0, z0, .ref q99, .ref q107, .ref q115, z0, z0, .null, .null, z0, z0, .null, .null, .null, z0, .null, .null, z0, z0, z0, .null, z0, lz])), (q7, ar cI 40), (q15, ar cI 8), (q23, ar cB 8), (q32, ar cI 192), (q40, ar cI 16), (q48, ar cI 40), (q56, ar cI 40), (q65, ar cI 240), (q74, ar cI 1920), (q83, ar cI 160), (q91, ar cI 6), (q99, ar cI 6), (q107, ar cI 6), (q115, ar cI 36)] := hD
  refine lv_aload_n hx hb dX7_init_120 rfl (lv_at hl 0 rfl) ?_
  refine lv_bipush (v := Int32.ofInt 60) hx hb dX7_init_121 (by decide) ?_
  refine vnew_i (N := 60) hx hb hts hK hP hD hS hA (by decide) (by decide) (Nat.le_of_ble_eq_true rfl) (Nat.le_of_ble_eq_true rfl) (Nat.le_of_ble_eq_true rfl) dX7_init_123 (fun q123 H hP hD hS => ?_)
  have hP : va_P D vwCl [(h0, .inr (7, [z0, .ref q7, z0, .ref q15, .ref q23, .ref q32, .ref q40, z0, z0, .ref q48, .ref q56, .ref q65, z0, .ref q74, .ref q83, z0, .ref q91, z0, z0, z0, z0, z0, z0, z0, .ref q99, .ref q107, .ref q115, z0, z0, .null, .null, z0, z0, .null, .null, .null, z0, .null, .null, z0, z0, z0, .null, z0, lz])), (q7, ar cI 40), (q15, ar cI 8), (q23, ar cB 8), (q32, ar cI 192), (q40, ar cI 16), (q48, ar cI 40), (q56, ar cI 40), (q65, ar cI 240), (q74, ar cI 1920), (q83, ar cI 160), (q91, ar cI 6), (q99, ar cI 6), (q107, ar cI 6), (q115, ar cI 36), (q123, ar cI 60)] H := hP
  have hD : va_D A [(h0, .inr (7, [z0, .ref q7, z0, .ref q15, .ref q23, .ref q32, .ref q40, z0, z0, .ref q48, .ref q56, .ref q65, z0, .ref q74, .ref q83, z0, .ref q91, z0, z0, z0, z0, z0, z0, z0, .ref q99, .ref q107, .ref q115, z0, z0, .null, .null, z0, z0, .null, .null, .null, z0, .null, .null, z0, z0, z0, .null, z0, lz])), (q7, ar cI 40), (q15, ar cI 8), (q23, ar cB 8), (q32, ar cI 192), (q40, ar cI 16), (q48, ar cI 40), (q56, ar cI 40), (q65, ar cI 240), (q74, ar cI 1920), (q83, ar cI 160), (q91, ar cI 6), (q99, ar cI 6), (q107, ar cI 6), (q115, ar cI 36), (q123, ar cI 60)] := hD
  refine W.widen (k := 15) (n := 2778) (Nat.le_of_ble_eq_true rfl) (Nat.le_of_ble_eq_true rfl) ?_
  refine va_putF (D := D) (ci := 7) (v := .ref q123) (ty := tyX7 29) (C := RX7) (T := TX7) (N := 45) hx hb hts layX7 tyX7 tyX7_ok nmX7 hown hK hP hD hS 0 rfl rfl 29 (by decide) (hts _ (gm 828 (by decide +kernel) rfl)) (fun _ h9 => h9) rfl hin rfl (tyX7_ok 29 (by decide)) rfl rfl (Nat.le_of_ble_eq_true rfl) dX7_init_125 (fun H locs hP hD hS => ?_)
  have hP : va_P D vwCl [(h0, .inr (7, [z0, .ref q7, z0, .ref q15, .ref q23, .ref q32, .ref q40, z0, z0, .ref q48, .ref q56, .ref q65, z0, .ref q74, .ref q83, z0, .ref q91, z0, z0, z0, z0, z0, z0, z0, .ref q99, .ref q107, .ref q115, z0, z0, .ref q123, .null, z0, z0, .null, .null, .null, z0, .null, .null, z0, z0, z0, .null, z0, lz])), (q7, ar cI 40), (q15, ar cI 8), (q23, ar cB 8), (q32, ar cI 192), (q40, ar cI 16), (q48, ar cI 40), (q56, ar cI 40), (q65, ar cI 240), (q74, ar cI 1920), (q83, ar cI 160), (q91, ar cI 6), (q99, ar cI 6), (q107, ar cI 6), (q115, ar cI 36), (q123, ar cI 60)] H := hP
  have hD : va_D A [(h0, .inr (7, [z0, .ref q7, z0, .ref q15, .ref q23, .ref q32, .ref q40, z0, z0, .ref q48, .ref q56, .ref q65, z0, .ref q74, .ref q83, z0, .ref q91, z0, z0, z0, z0, z0, z0, z0, .ref q99, .ref q107, .ref q115, z0, z0, .ref q123, .null, z0, z0, .null, .null, .null, z0, .null, .null, z0, z0, z0, .null, z0, lz])), (q7, ar cI 40), (q15, ar cI 8), (q23, ar cB 8), (q32, ar cI 192), (q40, ar cI 16), (q48, ar cI 40), (q56, ar cI 40), (q65, ar cI 240), (q74, ar cI 1920), (q83, ar cI 160), (q91, ar cI 6), (q99, ar cI 6), (q107, ar cI 6), (q115, ar cI 36), (q123, ar cI 60)] := hD
  refine lv_aload_n hx hb dX7_init_128 rfl (lv_at hl 0 rfl) ?_
  refine lv_bipush (v := Int32.ofInt 60) hx hb dX7_init_129 (by decide) ?_
  refine vnew_i (N := 60) hx hb hts hK hP hD hS hA (by decide) (by decide) (Nat.le_of_ble_eq_true rfl) (Nat.le_of_ble_eq_true rfl) (Nat.le_of_ble_eq_true rfl) dX7_init_131 (fun q131 H hP hD hS => ?_)
  have hP : va_P D vwCl [(h0, .inr (7, [z0, .ref q7, z0, .ref q15, .ref q23, .ref q32, .ref q40, z0, z0, .ref q48, .ref q56, .ref q65, z0, .ref q74, .ref q83, z0, .ref q91, z0, z0, z0, z0, z0, z0, z0, .ref q99, .ref q107, .ref q115, z0, z0, .ref q123, .null, z0, z0, .null, .null, .null, z0, .null, .null, z0, z0, z0, .null, z0, lz])), (q7, ar cI 40), (q15, ar cI 8), (q23, ar cB 8), (q32, ar cI 192), (q40, ar cI 16), (q48, ar cI 40), (q56, ar cI 40), (q65, ar cI 240), (q74, ar cI 1920), (q83, ar cI 160), (q91, ar cI 6), (q99, ar cI 6), (q107, ar cI 6), (q115, ar cI 36), (q123, ar cI 60), (q131, ar cI 60)] H := hP
  have hD : va_D A [(h0, .inr (7, [z0, .ref q7, z0, .ref q15, .ref q23, .ref q32, .ref q40, z0, z0, .ref q48, .ref q56, .ref q65, z0, .ref q74, .ref q83, z0, .ref q91, z0, z0, z0, z0, z0, z0, z0, .ref q99, .ref q107, .ref q115, z0, z0, .ref q123, .null, z0, z0, .null, .null, .null, z0, .null, .null, z0, z0, z0, .null, z0, lz])), (q7, ar cI 40), (q15, ar cI 8), (q23, ar cB 8), (q32, ar cI 192), (q40, ar cI 16), (q48, ar cI 40), (q56, ar cI 40), (q65, ar cI 240), (q74, ar cI 1920), (q83, ar cI 160), (q91, ar cI 6), (q99, ar cI 6), (q107, ar cI 6), (q115, ar cI 36), (q123, ar cI 60), (q131, ar cI 60)] := hD
  refine W.widen (k := 16) (n := 2838) (Nat.le_of_ble_eq_true rfl) (Nat.le_of_ble_eq_true rfl) ?_
  refine va_putF (D := D) (ci := 7) (v := .ref q131) (ty := tyX7 30) (C := RX7) (T := TX7) (N := 45) hx hb hts layX7 tyX7 tyX7_ok nmX7 hown hK hP hD hS 0 rfl rfl 30 (by decide) (hts _ (gm 829 (by decide +kernel) rfl)) (fun _ h9 => h9) rfl hin rfl (tyX7_ok 30 (by decide)) rfl rfl (Nat.le_of_ble_eq_true rfl) dX7_init_133 (fun H locs hP hD hS => ?_)
  have hP : va_P D vwCl [(h0, .inr (7, [z0, .ref q7, z0, .ref q15, .ref q23, .ref q32, .ref q40, z0, z0, .ref q48, .ref q56, .ref q65, z0, .ref q74, .ref q83, z0, .ref q91, z0, z0, z0, z0, z0, z0, z0, .ref q99, .ref q107, .ref q115, z0, z0, .ref q123, .ref q131, z0, z0, .null, .null, .null, z0, .null, .null, z0, z0, z0, .null, z0, lz])), (q7, ar cI 40), (q15, ar cI 8), (q23, ar cB 8), (q32, ar cI 192), (q40, ar cI 16), (q48, ar cI 40), (q56, ar cI 40), (q65, ar cI 240), (q74, ar cI 1920), (q83, ar cI 160), (q91, ar cI 6), (q99, ar cI 6), (q107, ar cI 6), (q115, ar cI 36), (q123, ar cI 60), (q131, ar cI 60)] H := hP
  have hD : va_D A [(h0, .inr (7, [z0, .ref q7, z0, .ref q15, .ref q23, .ref q32, .ref q40, z0, z0, .ref q48, .ref q56, .ref q65, z0, .ref q74, .ref q83, z0, .ref q91, z0, z0, z0, z0, z0, z0, z0, .ref q99, .ref q107, .ref q115, z0, z0, .ref q123, .ref q131, z0, z0, .null, .null, .null, z0, .null, .null, z0, z0, z0, .null, z0, lz])), (q7, ar cI 40), (q15, ar cI 8), (q23, ar cB 8), (q32, ar cI 192), (q40, ar cI 16), (q48, ar cI 40), (q56, ar cI 40), (q65, ar cI 240), (q74, ar cI 1920), (q83, ar cI 160), (q91, ar cI 6), (q99, ar cI 6), (q107, ar cI 6), (q115, ar cI 36), (q123, ar cI 60), (q131, ar cI 60)] := hD
  refine lv_aload_n hx hb dX7_init_136 rfl (lv_at hl 0 rfl) ?_
  refine lv_bipush (v := Int32.ofInt 61) hx hb dX7_init_137 (by decide) ?_
  refine vnew_i (N := 61) hx hb hts hK hP hD hS hA (by decide) (by decide) (Nat.le_of_ble_eq_true rfl) (Nat.le_of_ble_eq_true rfl) (Nat.le_of_ble_eq_true rfl) dX7_init_139 (fun q139 H hP hD hS => ?_)
  have hP : va_P D vwCl [(h0, .inr (7, [z0, .ref q7, z0, .ref q15, .ref q23, .ref q32, .ref q40, z0, z0, .ref q48, .ref q56, .ref q65, z0, .ref q74, .ref q83, z0, .ref q91, z0, z0, z0, z0, z0, z0, z0, .ref q99, .ref q107, .ref q115, z0, z0, .ref q123, .ref q131, z0, z0, .null, .null, .null, z0, .null, .null, z0, z0, z0, .null, z0, lz])), (q7, ar cI 40), (q15, ar cI 8), (q23, ar cB 8), (q32, ar cI 192), (q40, ar cI 16), (q48, ar cI 40), (q56, ar cI 40), (q65, ar cI 240), (q74, ar cI 1920), (q83, ar cI 160), (q91, ar cI 6), (q99, ar cI 6), (q107, ar cI 6), (q115, ar cI 36), (q123, ar cI 60), (q131, ar cI 60), (q139, ar cI 61)] H := hP
  have hD : va_D A [(h0, .inr (7, [z0, .ref q7, z0, .ref q15, .ref q23, .ref q32, .ref q40, z0, z0, .ref q48, .ref q56, .ref q65, z0, .ref q74, .ref q83, z0, .ref q91, z0, z0, z0, z0, z0, z0, z0, .ref q99, .ref q107, .ref q115, z0, z0, .ref q123, .ref q131, z0, z0, .null, .null, .null, z0, .null, .null, z0, z0, z0, .null, z0, lz])), (q7, ar cI 40), (q15, ar cI 8), (q23, ar cB 8), (q32, ar cI 192), (q40, ar cI 16), (q48, ar cI 40), (q56, ar cI 40), (q65, ar cI 240), (q74, ar cI 1920), (q83, ar cI 160), (q91, ar cI 6), (q99, ar cI 6), (q107, ar cI 6), (q115, ar cI 36), (q123, ar cI 60), (q131, ar cI 60), (q139, ar cI 61)] := hD
  refine W.widen (k := 17) (n := 2899) (Nat.le_of_ble_eq_true rfl) (Nat.le_of_ble_eq_true rfl) ?_
  refine va_putF (D := D) (ci := 7) (v := .ref q139) (ty := tyX7 33) (C := RX7) (T := TX7) (N := 45) hx hb hts layX7 tyX7 tyX7_ok nmX7 hown hK hP hD hS 0 rfl rfl 33 (by decide) (hts _ (gm 832 (by decide +kernel) rfl)) (fun _ h9 => h9) rfl hin rfl (tyX7_ok 33 (by decide)) rfl rfl (Nat.le_of_ble_eq_true rfl) dX7_init_141 (fun H locs hP hD hS => ?_)
  have hP : va_P D vwCl [(h0, .inr (7, [z0, .ref q7, z0, .ref q15, .ref q23, .ref q32, .ref q40, z0, z0, .ref q48, .ref q56, .ref q65, z0, .ref q74, .ref q83, z0, .ref q91, z0, z0, z0, z0, z0, z0, z0, .ref q99, .ref q107, .ref q115, z0, z0, .ref q123, .ref q131, z0, z0, .ref q139, .null, .null, z0, .null, .null, z0, z0, z0, .null, z0, lz])), (q7, ar cI 40), (q15, ar cI 8), (q23, ar cB 8), (q32, ar cI 192), (q40, ar cI 16), (q48, ar cI 40), (q56, ar cI 40), (q65, ar cI 240), (q74, ar cI 1920), (q83, ar cI 160), (q91, ar cI 6), (q99, ar cI 6), (q107, ar cI 6), (q115, ar cI 36), (q123, ar cI 60), (q131, ar cI 60), (q139, ar cI 61)] H := hP
  have hD : va_D A [(h0, .inr (7, [z0, .ref q7, z0, .ref q15, .ref q23, .ref q32, .ref q40, z0, z0, .ref q48, .ref q56, .ref q65, z0, .ref q74, .ref q83, z0, .ref q91, z0, z0, z0, z0, z0, z0, z0, .ref q99, .ref q107, .ref q115, z0, z0, .ref q123, .ref q131, z0, z0, .ref q139, .null, .null, z0, .null, .null, z0, z0, z0, .null, z0, lz])), (q7, ar cI 40), (q15, ar cI 8), (q23, ar cB 8), (q32, ar cI 192), (q40, ar cI 16), (q48, ar cI 40), (q56, ar cI 40), (q65, ar cI 240), (q74, ar cI 1920), (q83, ar cI 160), (q91, ar cI 6), (q99, ar cI 6), (q107, ar cI 6), (q115, ar cI 36), (q123, ar cI 60), (q131, ar cI 60), (q139, ar cI 61)] := hD
  refine lv_aload_n hx hb dX7_init_144 rfl (lv_at hl 0 rfl) ?_
  refine lv_bipush (v := Int32.ofInt 61) hx hb dX7_init_145 (by decide) ?_
  refine vnew_i (N := 61) hx hb hts hK hP hD hS hA (by decide) (by decide) (Nat.le_of_ble_eq_true rfl) (Nat.le_of_ble_eq_true rfl) (Nat.le_of_ble_eq_true rfl) dX7_init_147 (fun q147 H hP hD hS => ?_)
  have hP : va_P D vwCl [(h0, .inr (7, [z0, .ref q7, z0, .ref q15, .ref q23, .ref q32, .ref q40, z0, z0, .ref q48, .ref q56, .ref q65, z0, .ref q74, .ref q83, z0, .ref q91, z0, z0, z0, z0, z0, z0, z0, .ref q99, .ref q107, .ref q115, z0, z0, .ref q123, .ref q131, z0, z0, .ref q139, .null, .null, z0, .null, .null, z0, z0, z0, .null, z0, lz])), (q7, ar cI 40), (q15, ar cI 8), (q23, ar cB 8), (q32, ar cI 192), (q40, ar cI 16), (q48, ar cI 40), (q56, ar cI 40), (q65, ar cI 240), (q74, ar cI 1920), (q83, ar cI 160), (q91, ar cI 6), (q99, ar cI 6), (q107, ar cI 6), (q115, ar cI 36), (q123, ar cI 60), (q131, ar cI 60), (q139, ar cI 61), (q147, ar cI 61)] H := hP
  have hD : va_D A [(h0, .inr (7, [z0, .ref q7, z0, .ref q15, .ref q23, .ref q32, .ref q40, z0, z0, .ref q48, .ref q56, .ref q65, z0, .ref q74, .ref q83, z0, .ref q91, z0, z0, z0, z0, z0, z0, z0, .ref q99, .ref q107, .ref q115, z0, z0, .ref q123, .ref q131, z0, z0, .ref q139, .null, .null, z0, .null, .null, z0, z0, z0, .null, z0, lz])), (q7, ar cI 40), (q15, ar cI 8), (q23, ar cB 8), (q32, ar cI 192), (q40, ar cI 16), (q48, ar cI 40), (q56, ar cI 40), (q65, ar cI 240), (q74, ar cI 1920), (q83, ar cI 160), (q91, ar cI 6), (q99, ar cI 6), (q107, ar cI 6), (q115, ar cI 36), (q123, ar cI 60), (q131, ar cI 60), (q139, ar cI 61), (q147, ar cI 61)] := hD
  refine W.widen (k := 18) (n := 2960) (Nat.le_of_ble_eq_true rfl) (Nat.le_of_ble_eq_true rfl) ?_
  refine va_putF (D := D) (ci := 7) (v := .ref q147) (ty := tyX7 34) (C := RX7) (T := TX7) (N := 45) hx hb hts layX7 tyX7 tyX7_ok nmX7 hown hK hP hD hS 0 rfl rfl 34 (by decide) (hts _ (gm 833 (by decide +kernel) rfl)) (fun _ h9 => h9) rfl hin rfl (tyX7_ok 34 (by decide)) rfl rfl (Nat.le_of_ble_eq_true rfl) dX7_init_149 (fun H locs hP hD hS => ?_)
  have hP : va_P D vwCl [(h0, .inr (7, [z0, .ref q7, z0, .ref q15, .ref q23, .ref q32, .ref q40, z0, z0, .ref q48, .ref q56, .ref q65, z0, .ref q74, .ref q83, z0, .ref q91, z0, z0, z0, z0, z0, z0, z0, .ref q99, .ref q107, .ref q115, z0, z0, .ref q123, .ref q131, z0, z0, .ref q139, .ref q147, .null, z0, .null, .null, z0, z0, z0, .null, z0, lz])), (q7, ar cI 40), (q15, ar cI 8), (q23, ar cB 8), (q32, ar cI 192), (q40, ar cI 16), (q48, ar cI 40), (q56, ar cI 40), (q65, ar cI 240), (q74, ar cI 1920), (q83, ar cI 160), (q91, ar cI 6), (q99, ar cI 6), (q107, ar cI 6), (q115, ar cI 36), (q123, ar cI 60), (q131, ar cI 60), (q139, ar cI 61), (q147, ar cI 61)] H := hP
  have hD : va_D A [(h0, .inr (7, [z0, .ref q7, z0, .ref q15, .ref q23, .ref q32, .ref q40, z0, z0, .ref q48, .ref q56, .ref q65, z0, .ref q74, .ref q83, z0, .ref q91, z0, z0, z0, z0, z0, z0, z0, .ref q99, .ref q107, .ref q115, z0, z0, .ref q123, .ref q131, z0, z0, .ref q139, .ref q147, .null, z0, .null, .null, z0, z0, z0, .null, z0, lz])), (q7, ar cI 40), (q15, ar cI 8), (q23, ar cB 8), (q32, ar cI 192), (q40, ar cI 16), (q48, ar cI 40), (q56, ar cI 40), (q65, ar cI 240), (q74, ar cI 1920), (q83, ar cI 160), (q91, ar cI 6), (q99, ar cI 6), (q107, ar cI 6), (q115, ar cI 36), (q123, ar cI 60), (q131, ar cI 60), (q139, ar cI 61), (q147, ar cI 61)] := hD
  refine lv_aload_n hx hb dX7_init_152 rfl (lv_at hl 0 rfl) ?_
  refine lv_bipush (v := Int32.ofInt 61) hx hb dX7_init_153 (by decide) ?_
  refine vnew_i (N := 61) hx hb hts hK hP hD hS hA (by decide) (by decide) (Nat.le_of_ble_eq_true rfl) (Nat.le_of_ble_eq_true rfl) (Nat.le_of_ble_eq_true rfl) dX7_init_155 (fun q155 H hP hD hS => ?_)
  have hP : va_P D vwCl [(h0, .inr (7, [z0, .ref q7, z0, .ref q15, .ref q23, .ref q32, .ref q40, z0, z0, .ref q48, .ref q56, .ref q65, z0, .ref q74, .ref q83, z0, .ref q91, z0, z0, z0, z0, z0, z0, z0, .ref q99, .ref q107, .ref q115, z0, z0, .ref q123, .ref q131, z0, z0, .ref q139, .ref q147, .null, z0, .null, .null, z0, z0, z0, .null, z0, lz])), (q7, ar cI 40), (q15, ar cI 8), (q23, ar cB 8), (q32, ar cI 192), (q40, ar cI 16), (q48, ar cI 40), (q56, ar cI 40), (q65, ar cI 240), (q74, ar cI 1920), (q83, ar cI 160), (q91, ar cI 6), (q99, ar cI 6), (q107, ar cI 6), (q115, ar cI 36), (q123, ar cI 60), (q131, ar cI 60), (q139, ar cI 61), (q147, ar cI 61), (q155, ar cI 61)] H := hP
  have hD : va_D A [(h0, .inr (7, [z0, .ref q7, z0, .ref q15, .ref q23, .ref q32, .ref q40, z0, z0, .ref q48, .ref q56, .ref q65, z0, .ref q74, .ref q83, z0, .ref q91, z0, z0, z0, z0, z0, z0, z0, .ref q99, .ref q107, .ref q115, z0, z0, .ref q123, .ref q131, z0, z0, .ref q139, .ref q147, .null, z0, .null, .null, z0, z0, z0, .null, z0, lz])), (q7, ar cI 40), (q15, ar cI 8), (q23, ar cB 8), (q32, ar cI 192), (q40, ar cI 16), (q48, ar cI 40), (q56, ar cI 40), (q65, ar cI 240), (q74, ar cI 1920), (q83, ar cI 160), (q91, ar cI 6), (q99, ar cI 6), (q107, ar cI 6), (q115, ar cI 36), (q123, ar cI 60), (q131, ar cI 60), (q139, ar cI 61), (q147, ar cI 61), (q155, ar cI 61)] := hD
  refine W.widen (k := 19) (n := 3021) (Nat.le_of_ble_eq_true rfl) (Nat.le_of_ble_eq_true rfl) ?_
  refine va_putF (D := D) (ci := 7) (v := .ref q155) (ty := tyX7 35) (C := RX7) (T := TX7) (N := 45) hx hb hts layX7 tyX7 tyX7_ok nmX7 hown hK hP hD hS 0 rfl rfl 35 (by decide) (hts _ (gm 834 (by decide +kernel) rfl)) (fun _ h9 => h9) rfl hin rfl (tyX7_ok 35 (by decide)) rfl rfl (Nat.le_of_ble_eq_true rfl) dX7_init_157 (fun H locs hP hD hS => ?_)
  have hP : va_P D vwCl [(h0, .inr (7, [z0, .ref q7, z0, .ref q15, .ref q23, .ref q32, .ref q40, z0, z0, .ref q48, .ref q56, .ref q65, z0, .ref q74, .ref q83, z0, .ref q91, z0, z0, z0, z0, z0, z0, z0, .ref q99, .ref q107, .ref q115, z0, z0, .ref q123, .ref q131, z0, z0, .ref q139, .ref q147, .ref q155, z0, .null, .null, z0, z0, z0, .null, z0, lz])), (q7, ar cI 40), (q15, ar cI 8), (q23, ar cB 8), (q32, ar cI 192), (q40, ar cI 16), (q48, ar cI 40), (q56, ar cI 40), (q65, ar cI 240), (q74, ar cI 1920), (q83, ar cI 160), (q91, ar cI 6), (q99, ar cI 6), (q107, ar cI 6), (q115, ar cI 36), (q123, ar cI 60), (q131, ar cI 60), (q139, ar cI 61), (q147, ar cI 61), (q155, ar cI 61)] H := hP
  have hD : va_D A [(h0, .inr (7, [z0, .ref q7, z0, .ref q15, .ref q23, .ref q32, .ref q40, z0, z0, .ref q48, .ref q56, .ref q65, z0, .ref q74, .ref q83, z0, .ref q91, z0, z0, z0, z0, z0, z0, z0, .ref q99, .ref q107, .ref q115, z0, z0, .ref q123, .ref q131, z0, z0, .ref q139, .ref q147, .ref q155, z0, .null, .null, z0, z0, z0, .null, z0, lz])), (q7, ar cI 40), (q15, ar cI 8), (q23, ar cB 8), (q32, ar cI 192), (q40, ar cI 16), (q48, ar cI 40), (q56, ar cI 40), (q65, ar cI 240), (q74, ar cI 1920), (q83, ar cI 160), (q91, ar cI 6), (q99, ar cI 6), (q107, ar cI 6), (q115, ar cI 36), (q123, ar cI 60), (q131, ar cI 60), (q139, ar cI 61), (q147, ar cI 61), (q155, ar cI 61)] := hD
  refine lv_aload_n hx hb dX7_init_160 rfl (lv_at hl 0 rfl) ?_
  refine lv_bipush (v := Int32.ofInt 60) hx hb dX7_init_161 (by decide) ?_
  refine vnew_i (N := 60) hx hb hts hK hP hD hS hA (by decide) (by decide) (Nat.le_of_ble_eq_true rfl) (Nat.le_of_ble_eq_true rfl) (Nat.le_of_ble_eq_true rfl) dX7_init_163 (fun q163 H hP hD hS => ?_)
  have hP : va_P D vwCl [(h0, .inr (7, [z0, .ref q7, z0, .ref q15, .ref q23, .ref q32, .ref q40, z0, z0, .ref q48, .ref q56, .ref q65, z0, .ref q74, .ref q83, z0, .ref q91, z0, z0, z0, z0, z0, z0, z0, .ref q99, .ref q107, .ref q115, z0, z0, .ref q123, .ref q131, z0, z0, .ref q139, .ref q147, .ref q155, z0, .null, .null, z0, z0, z0, .null, z0, lz])), (q7, ar cI 40), (q15, ar cI 8), (q23, ar cB 8), (q32, ar cI 192), (q40, ar cI 16), (q48, ar cI 40), (q56, ar cI 40), (q65, ar cI 240), (q74, ar cI 1920), (q83, ar cI 160), (q91, ar cI 6), (q99, ar cI 6), (q107, ar cI 6), (q115, ar cI 36), (q123, ar cI 60), (q131, ar cI 60), (q139, ar cI 61), (q147, ar cI 61), (q155, ar cI 61), (q163, ar cI 60)] H := hP
  have hD : va_D A [(h0, .inr (7, [z0, .ref q7, z0, .ref q15, .ref q23, .ref q32, .ref q40, z0, z0, .ref q48, .ref q56, .ref q65, z0, .ref q74, .ref q83, z0, .ref q91, z0, z0, z0, z0, z0, z0, z0, .ref q99, .ref q107, .ref q115, z0, z0, .ref q123, .ref q131, z0, z0, .ref q139, .ref q147, .ref q155, z0, .null, .null, z0, z0, z0, .null, z0, lz])), (q7, ar cI 40), (q15, ar cI 8), (q23, ar cB 8), (q32, ar cI 192), (q40, ar cI 16), (q48, ar cI 40), (q56, ar cI 40), (q65, ar cI 240), (q74, ar cI 1920), (q83, ar cI 160), (q91, ar cI 6), (q99, ar cI 6), (q107, ar cI 6), (q115, ar cI 36), (q123, ar cI 60), (q131, ar cI 60), (q139, ar cI 61), (q147, ar cI 61), (q155, ar cI 61), (q163, ar cI 60)] := hD
  refine W.widen (k := 20) (n := 3081) (Nat.le_of_ble_eq_true rfl) (Nat.le_of_ble_eq_true rfl) ?_
  refine va_putF (D := D) (ci := 7) (v := .ref q163) (ty := tyX7 37) (C := RX7) (T := TX7) (N := 45) hx hb hts layX7 tyX7 tyX7_ok nmX7 hown hK hP hD hS 0 rfl rfl 37 (by decide) (hts _ (gm 836 (by decide +kernel) rfl)) (fun _ h9 => h9) rfl hin rfl (tyX7_ok 37 (by decide)) rfl rfl (Nat.le_of_ble_eq_true rfl) dX7_init_165 (fun H locs hP hD hS => ?_)
  have hP : va_P D vwCl [(h0, .inr (7, [z0, .ref q7, z0, .ref q15, .ref q23, .ref q32, .ref q40, z0, z0, .ref q48, .ref q56, .ref q65, z0, .ref q74, .ref q83, z0, .ref q91, z0, z0, z0, z0, z0, z0, z0, .ref q99, .ref q107, .ref q115, z0, z0, .ref q123, .ref q131, z0, z0, .ref q139, .ref q147, .ref q155, z0, .ref q163, .null, z0, z0, z0, .null, z0, lz])), (q7, ar cI 40), (q15, ar cI 8), (q23, ar cB 8), (q32, ar cI 192), (q40, ar cI 16), (q48, ar cI 40), (q56, ar cI 40), (q65, ar cI 240), (q74, ar cI 1920), (q83, ar cI 160), (q91, ar cI 6), (q99, ar cI 6), (q107, ar cI 6), (q115, ar cI 36), (q123, ar cI 60), (q131, ar cI 60), (q139, ar cI 61), (q147, ar cI 61), (q155, ar cI 61), (q163, ar cI 60)] H := hP
  have hD : va_D A [(h0, .inr (7, [z0, .ref q7, z0, .ref q15, .ref q23, .ref q32, .ref q40, z0, z0, .ref q48, .ref q56, .ref q65, z0, .ref q74, .ref q83, z0, .ref q91, z0, z0, z0, z0, z0, z0, z0, .ref q99, .ref q107, .ref q115, z0, z0, .ref q123, .ref q131, z0, z0, .ref q139, .ref q147, .ref q155, z0, .ref q163, .null, z0, z0, z0, .null, z0, lz])), (q7, ar cI 40), (q15, ar cI 8), (q23, ar cB 8), (q32, ar cI 192), (q40, ar cI 16), (q48, ar cI 40), (q56, ar cI 40), (q65, ar cI 240), (q74, ar cI 1920), (q83, ar cI 160), (q91, ar cI 6), (q99, ar cI 6), (q107, ar cI 6), (q115, ar cI 36), (q123, ar cI 60), (q131, ar cI 60), (q139, ar cI 61), (q147, ar cI 61), (q155, ar cI 61), (q163, ar cI 60)] := hD
  refine lv_aload_n hx hb dX7_init_168 rfl (lv_at hl 0 rfl) ?_
  refine lv_bipush (v := Int32.ofInt 60) hx hb dX7_init_169 (by decide) ?_
  refine vnew_i (N := 60) hx hb hts hK hP hD hS hA (by decide) (by decide) (Nat.le_of_ble_eq_true rfl) (Nat.le_of_ble_eq_true rfl) (Nat.le_of_ble_eq_true rfl) dX7_init_171 (fun q171 H hP hD hS => ?_)
  have hP : va_P D vwCl [(h0, .inr (7, [z0, .ref q7, z0, .ref q15, .ref q23, .ref q32, .ref q40, z0, z0, .ref q48, .ref q56, .ref q65, z0, .ref q74, .ref q83, z0, .ref q91, z0, z0, z0, z0, z0, z0, z0, .ref q99, .ref q107, .ref q115, z0, z0, .ref q123, .ref q131, z0, z0, .ref q139, .ref q147, .ref q155, z0, .ref q163, .null, z0, z0, z0, .null, z0, lz])), (q7, ar cI 40), (q15, ar cI 8), (q23, ar cB 8), (q32, ar cI 192), (q40, ar cI 16), (q48, ar cI 40), (q56, ar cI 40), (q65, ar cI 240), (q74, ar cI 1920), (q83, ar cI 160), (q91, ar cI 6), (q99, ar cI 6), (q107, ar cI 6), (q115, ar cI 36), (q123, ar cI 60), (q131, ar cI 60), (q139, ar cI 61), (q147, ar cI 61), (q155, ar cI 61), (q163, ar cI 60), (q171, ar cI 60)] H := hP
  have hD : va_D A [(h0, .inr (7, [z0, .ref q7, z0, .ref q15, .ref q23, .ref q32, .ref q40, z0, z0, .ref q48, .ref q56, .ref q65, z0, .ref q74, .ref q83, z0, .ref q91, z0, z0, z0, z0, z0, z0, z0, .ref q99, .ref q107, .ref q115, z0, z0, .ref q123, .ref q131, z0, z0, .ref q139, .ref q147, .ref q155, z0, .ref q163, .null, z0, z0, z0, .null, z0, lz])), (q7, ar cI 40), (q15, ar cI 8), (q23, ar cB 8), (q32, ar cI 192), (q40, ar cI 16), (q48, ar cI 40), (q56, ar cI 40), (q65, ar cI 240), (q74, ar cI 1920), (q83, ar cI 160), (q91, ar cI 6), (q99, ar cI 6), (q107, ar cI 6), (q115, ar cI 36), (q123, ar cI 60), (q131, ar cI 60), (q139, ar cI 61), (q147, ar cI 61), (q155, ar cI 61), (q163, ar cI 60), (q171, ar cI 60)] := hD
  refine W.widen (k := 21) (n := 3141) (Nat.le_of_ble_eq_true rfl) (Nat.le_of_ble_eq_true rfl) ?_
  refine va_putF (D := D) (ci := 7) (v := .ref q171) (ty := tyX7 38) (C := RX7) (T := TX7) (N := 45) hx hb hts layX7 tyX7 tyX7_ok nmX7 hown hK hP hD hS 0 rfl rfl 38 (by decide) (hts _ (gm 837 (by decide +kernel) rfl)) (fun _ h9 => h9) rfl hin rfl (tyX7_ok 38 (by decide)) rfl rfl (Nat.le_of_ble_eq_true rfl) dX7_init_173 (fun H locs hP hD hS => ?_)
  have hP : va_P D vwCl [(h0, .inr (7, [z0, .ref q7, z0, .ref q15, .ref q23, .ref q32, .ref q40, z0, z0, .ref q48, .ref q56, .ref q65, z0, .ref q74, .ref q83, z0, .ref q91, z0, z0, z0, z0, z0, z0, z0, .ref q99, .ref q107, .ref q115, z0, z0, .ref q123, .ref q131, z0, z0, .ref q139, .ref q147, .ref q155, z0, .ref q163, .ref q171, z0, z0, z0, .null, z0, lz])), (q7, ar cI 40), (q15, ar cI 8), (q23, ar cB 8), (q32, ar cI 192), (q40, ar cI 16), (q48, ar cI 40), (q56, ar cI 40), (q65, ar cI 240), (q74, ar cI 1920), (q83, ar cI 160), (q91, ar cI 6), (q99, ar cI 6), (q107, ar cI 6), (q115, ar cI 36), (q123, ar cI 60), (q131, ar cI 60), (q139, ar cI 61), (q147, ar cI 61), (q155, ar cI 61), (q163, ar cI 60), (q171, ar cI 60)] H := hP
  have hD : va_D A [(h0, .inr (7, [z0, .ref q7, z0, .ref q15, .ref q23, .ref q32, .ref q40, z0, z0, .ref q48, .ref q56, .ref q65, z0, .ref q74, .ref q83, z0, .ref q91, z0, z0, z0, z0, z0, z0, z0, .ref q99, .ref q107, .ref q115, z0, z0, .ref q123, .ref q131, z0, z0, .ref q139, .ref q147, .ref q155, z0, .ref q163, .ref q171, z0, z0, z0, .null, z0, lz])), (q7, ar cI 40), (q15, ar cI 8), (q23, ar cB 8), (q32, ar cI 192), (q40, ar cI 16), (q48, ar cI 40), (q56, ar cI 40), (q65, ar cI 240), (q74, ar cI 1920), (q83, ar cI 160), (q91, ar cI 6), (q99, ar cI 6), (q107, ar cI 6), (q115, ar cI 36), (q123, ar cI 60), (q131, ar cI 60), (q139, ar cI 61), (q147, ar cI 61), (q155, ar cI 61), (q163, ar cI 60), (q171, ar cI 60)] := hD
  refine lv_aload_n hx hb dX7_init_176 rfl (lv_at hl 0 rfl) ?_
  refine lv_bipush (v := Int32.ofInt 40) hx hb dX7_init_177 (by decide) ?_
  refine vnew_z (N := 40) hx hb hts hK hP hD hS hA (by decide) (by decide) (Nat.le_of_ble_eq_true rfl) (Nat.le_of_ble_eq_true rfl) (Nat.le_of_ble_eq_true rfl) dX7_init_179 (fun q179 H hP hD hS => ?_)
  have hP : va_P D vwCl [(h0, .inr (7, [z0, .ref q7, z0, .ref q15, .ref q23, .ref q32, .ref q40, z0, z0, .ref q48, .ref q56, .ref q65, z0, .ref q74, .ref q83, z0, .ref q91, z0, z0, z0, z0, z0, z0, z0, .ref q99, .ref q107, .ref q115, z0, z0, .ref q123, .ref q131, z0, z0, .ref q139, .ref q147, .ref q155, z0, .ref q163, .ref q171, z0, z0, z0, .null, z0, lz])), (q7, ar cI 40), (q15, ar cI 8), (q23, ar cB 8), (q32, ar cI 192), (q40, ar cI 16), (q48, ar cI 40), (q56, ar cI 40), (q65, ar cI 240), (q74, ar cI 1920), (q83, ar cI 160), (q91, ar cI 6), (q99, ar cI 6), (q107, ar cI 6), (q115, ar cI 36), (q123, ar cI 60), (q131, ar cI 60), (q139, ar cI 61), (q147, ar cI 61), (q155, ar cI 61), (q163, ar cI 60), (q171, ar cI 60), (q179, ar cB 40)] H := hP
  have hD : va_D A [(h0, .inr (7, [z0, .ref q7, z0, .ref q15, .ref q23, .ref q32, .ref q40, z0, z0, .ref q48, .ref q56, .ref q65, z0, .ref q74, .ref q83, z0, .ref q91, z0, z0, z0, z0, z0, z0, z0, .ref q99, .ref q107, .ref q115, z0, z0, .ref q123, .ref q131, z0, z0, .ref q139, .ref q147, .ref q155, z0, .ref q163, .ref q171, z0, z0, z0, .null, z0, lz])), (q7, ar cI 40), (q15, ar cI 8), (q23, ar cB 8), (q32, ar cI 192), (q40, ar cI 16), (q48, ar cI 40), (q56, ar cI 40), (q65, ar cI 240), (q74, ar cI 1920), (q83, ar cI 160), (q91, ar cI 6), (q99, ar cI 6), (q107, ar cI 6), (q115, ar cI 36), (q123, ar cI 60), (q131, ar cI 60), (q139, ar cI 61), (q147, ar cI 61), (q155, ar cI 61), (q163, ar cI 60), (q171, ar cI 60), (q179, ar cB 40)] := hD
  refine W.widen (k := 22) (n := 3181) (Nat.le_of_ble_eq_true rfl) (Nat.le_of_ble_eq_true rfl) ?_
  refine va_putF (D := D) (ci := 7) (v := .ref q179) (ty := tyX7 42) (C := RX7) (T := TX7) (N := 45) hx hb hts layX7 tyX7 tyX7_ok nmX7 hown hK hP hD hS 0 rfl rfl 42 (by decide) (hts _ (gm 841 (by decide +kernel) rfl)) (fun _ h9 => h9) rfl hin rfl (tyX7_ok 42 (by decide)) rfl rfl (Nat.le_of_ble_eq_true rfl) dX7_init_181 (fun H locs hP hD hS => ?_)
  have hP : va_P D vwCl [(h0, .inr (7, [z0, .ref q7, z0, .ref q15, .ref q23, .ref q32, .ref q40, z0, z0, .ref q48, .ref q56, .ref q65, z0, .ref q74, .ref q83, z0, .ref q91, z0, z0, z0, z0, z0, z0, z0, .ref q99, .ref q107, .ref q115, z0, z0, .ref q123, .ref q131, z0, z0, .ref q139, .ref q147, .ref q155, z0, .ref q163, .ref q171, z0, z0, z0, .ref q179, z0, lz])), (q7, ar cI 40), (q15, ar cI 8), (q23, ar cB 8), (q32, ar cI 192), (q40, ar cI 16), (q48, ar cI 40), (q56, ar cI 40), (q65, ar cI 240), (q74, ar cI 1920), (q83, ar cI 160), (q91, ar cI 6), (q99, ar cI 6), (q107, ar cI 6), (q115, ar cI 36), (q123, ar cI 60), (q131, ar cI 60), (q139, ar cI 61), (q147, ar cI 61), (q155, ar cI 61), (q163, ar cI 60), (q171, ar cI 60), (q179, ar cB 40)] H := hP
  have hD : va_D A [(h0, .inr (7, [z0, .ref q7, z0, .ref q15, .ref q23, .ref q32, .ref q40, z0, z0, .ref q48, .ref q56, .ref q65, z0, .ref q74, .ref q83, z0, .ref q91, z0, z0, z0, z0, z0, z0, z0, .ref q99, .ref q107, .ref q115, z0, z0, .ref q123, .ref q131, z0, z0, .ref q139, .ref q147, .ref q155, z0, .ref q163, .ref q171, z0, z0, z0, .ref q179, z0, lz])), (q7, ar cI 40), (q15, ar cI 8), (q23, ar cB 8), (q32, ar cI 192), (q40, ar cI 16), (q48, ar cI 40), (q56, ar cI 40), (q65, ar cI 240), (q74, ar cI 1920), (q83, ar cI 160), (q91, ar cI 6), (q99, ar cI 6), (q107, ar cI 6), (q115, ar cI 36), (q123, ar cI 60), (q131, ar cI 60), (q139, ar cI 61), (q147, ar cI 61), (q155, ar cI 61), (q163, ar cI 60), (q171, ar cI 60), (q179, ar cB 40)] := hD
  exact W.vret hx hb hr (fun t ht hW => ⟨⟨(), rfl, trivial, q7, q15, q23, q32, q40, q48, q56, q65, q74, q83, q91, q99, q107, q115, q123, q131, q139, q147, q155, q163, q171, q179, by rw [ht]; exact hP, hD⟩, hS.F ht⟩) hS.2.2 dX7_init_184
set_option maxRecDepth 100000 in
set_option maxHeartbeats 4000000 in
theorem ct_X6 (l : Launch) (D : va_G) (cI cB : ClassId) (h0  sz : Nat) : Met l mX6_init.1 (cdw mX6_init :: gTbl) ({ frames := 2, cells := 28, slots := 3968, locals := 40 }) (PC D cI cB [(h0, .inr (6, [.null, .null, .null, .null, .null, .null, z0]))] sz [.ref h0]) (va_Qv (fun _ : Unit => True) (fun _ t => ∃ q5 q5_q7 q16 q16_q7 q16_q15 q16_q23 q27 q27_q7 q27_q15 q27_q23 q27_q31 q27_q39 q27_q47 q27_q56 q37 q37_q7 q37_q15 q37_q23 q37_q31 q50 q50_q8 q50_q16 q50_q24 q66 q66_q8 q66_q16 q66_q24 q88 : Nat, va_P D vwCl [(h0, .inr (6, [.ref q5, .ref q16, .ref q27, .ref q50, .ref q66, .ref q88, z0])), (q5, .inr (1, [.ref q5_q7, z0])), (q5_q7, ar cI 40), (q16, .inr (2, [.ref q16_q7, .ref q16_q15, .ref q16_q23, z0, z0, z0, z0, z0, z0])), (q16_q7, ar cI 12), (q16_q15, ar cI 12), (q16_q23, ar cI 72), (q27, .inr (5, [.ref q27_q7, .ref q27_q15, .ref q27_q23, .ref q27_q31, .ref q27_q39, .ref q27_q47, .ref q27_q56, z0, z0, z0])), (q27_q7, ar cI 8), (q27_q15, ar cB 8), (q27_q23, ar cI 96), (q27_q31, ar cI 8), (q27_q39, ar cI 8), (q27_q47, ar cI 40), (q27_q56, ar cI 240), (q37, .inr (4, [.ref q27, .ref q37_q7, .ref q37_q15, .ref q37_q23, .ref q37_q31, lz, z0, z0, z0])), (q37_q7, ar cI 60), (q37_q15, ar cI 40), (q37_q23, ar cI 40), (q37_q31, ar cI 40), (q50, .inr (3, [.ref q27, .ref q37, .ref q50_q8, .ref q50_q16, .ref q50_q24, lz, z0, m1])), (q50_q8, ar cI 2880), (q50_q16, ar cI 48), (q50_q24, ar cI 48), (q66, .inr (0, [.ref q27, .ref q37, .ref q50, .ref q66_q8, .ref q66_q16, .ref q66_q24, z0, z0, z0, m1, z0, z0, z0, m1])), (q66_q8, ar cI 168), (q66_q16, ar cI 21), (q66_q24, ar cI 21), (q88, ar cI 6)] t.heap ∧ va_D (va_A [(h0, .inr (6, [.null, .null, .null, .null, .null, .null, z0]))] sz) [(h0, .inr (6, [.ref q5, .ref q16, .ref q27, .ref q50, .ref q66, .ref q88, z0])), (q5, .inr (1, [.ref q5_q7, z0])), (q5_q7, ar cI 40), (q16, .inr (2, [.ref q16_q7, .ref q16_q15, .ref q16_q23, z0, z0, z0, z0, z0, z0])), (q16_q7, ar cI 12), (q16_q15, ar cI 12), (q16_q23, ar cI 72), (q27, .inr (5, [.ref q27_q7, .ref q27_q15, .ref q27_q23, .ref q27_q31, .ref q27_q39, .ref q27_q47, .ref q27_q56, z0, z0, z0])), (q27_q7, ar cI 8), (q27_q15, ar cB 8), (q27_q23, ar cI 96), (q27_q31, ar cI 8), (q27_q39, ar cI 8), (q27_q47, ar cI 40), (q27_q56, ar cI 240), (q37, .inr (4, [.ref q27, .ref q37_q7, .ref q37_q15, .ref q37_q23, .ref q37_q31, lz, z0, z0, z0])), (q37_q7, ar cI 60), (q37_q15, ar cI 40), (q37_q23, ar cI 40), (q37_q31, ar cI 40), (q50, .inr (3, [.ref q27, .ref q37, .ref q50_q8, .ref q50_q16, .ref q50_q24, lz, z0, m1])), (q50_q8, ar cI 2880), (q50_q16, ar cI 48), (q50_q24, ar cI 48), (q66, .inr (0, [.ref q27, .ref q37, .ref q50, .ref q66_q8, .ref q66_q16, .ref q66_q24, z0, z0, z0, m1, z0, z0, z0, m1])), (q66_q8, ar cI 168), (q66_q16, ar cI 21), (q66_q24, ar cI 21), (q88, ar cI 6)]) (va_A [(h0, .inr (6, [.null, .null, .null, .null, .null, .null, z0]))] sz)) 28 3968 (va_A [(h0, .inr (6, [.null, .null, .null, .null, .null, .null, z0]))] sz) := by
  refine Met.ofW (cc := cX6_init) (maxL := 2) (ret := none) (by decide +kernel) rfl ?_
  intro p e s m args below meth c s₁ B hml hv
  obtain ⟨rfl, hsz, hP, hK, hN, hD0⟩ := hv
  have hx := B.exec
  have hb := B.bytes
  have hr := B.returns
  have hts0 := atoms_spec (ws := cdw mX6_init :: gTbl) B.pre
  have hts : ∀ w ∈ gTbl, w.before _ s = true := fun w hw => hts0 w (List.mem_cons_of_mem _ hw)
  have hown : s.vm.findClass RX6 = some m.cls := findClass_of_methodNamed B.named
  have hlocks := B.notSynchronized
  have hin : meth.name = "<init>" := (name_of_methodNamed B.named B.method).1
  subst hsz
  have hD := hD0.self (sz := s.heap.size)
  generalize hAe : va_A [(h0, .inr (6, [.null, .null, .null, .null, .null, .null, z0]))] s.heap.size = A at hD ⊢
  have hA : ∀ q : Nat, s.heap.size ≤ q → A q := fun q h => by rw [← hAe]; exact Or.inr h
  have hS : va_S A s.heap s.heap [] := va_S.rf
  have hl := lv_entry ([.ref h0]) (n := 2) (Nat.le_of_ble_eq_true rfl)
  rw [lg_entry_eq]
  generalize (lg_sl ([.ref h0]) ++ List.replicate (2 - (lg_sl ([.ref h0])).length) Slot.unset).toArray = ls at hl ⊢
  have hl : lv_has ls 2 [(0, .ref h0)] := hl
  refine lv_aload_n hx hb dX6_init_0 rfl (lv_at hl 0 rfl) ?_
  refine W.objInit hx hb hown (hts _ (gm 93 (by decide +kernel) rfl)) (hts _ oi_inst) (hts _ oi_code) rfl (by rw [hml]; exact hl.1) rfl dX6_init_1 (Nat.le_of_ble_eq_true rfl) (Nat.le_of_ble_eq_true rfl) ?_
  refine W.eq (g2 := F0 m 4 ls []) rfl ?_
  refine lv_aload_n hx hb dX6_init_4 rfl (lv_at hl 0 rfl) ?_
  refine va_new (ci := 1) (fs := [.null, z0]) (C := RX1) (T := TX1) (N := 2) hx hb hts layX1 tyX1 tyX1_ok hown (hts _ (gm 96 (by decide +kernel) rfl)) (hts _ (gm 97 (by decide +kernel) rfl)) (hts _ (gm 79 (by decide +kernel) rfl)) hK hP hD hS hA rfl (fun j hj => by rcases (show j = 0 ∨ j = 1 by omega) with rfl | rfl <;> rfl) (Nat.le_of_ble_eq_true rfl) (Nat.le_of_ble_eq_true rfl) dX6_init_5 (fun q5 H hP hD hS => ?_)
  have hP : va_P D vwCl [(h0, .inr (6, [.null, .null, .null, .null, .null, .null, z0])), (q5, .inr (1, [.null, z0]))] H := hP
  have hD : va_D A [(h0, .inr (6, [.null, .null, .null, .null, .null, .null, z0])), (q5, .inr (1, [.null, z0]))] := hD
  refine W.widen (k := 1) (n := 2) (Nat.le_of_ble_eq_true rfl) (Nat.le_of_ble_eq_true rfl) ?_
  refine lv_dup hx hb dX6_init_8 rfl ?_
  have hPc := hP.sub (ws' := [(q5, .inr (1, [.null, z0]))]) [1] rfl
  have hDc := hD.sub (ws' := [(q5, .inr (1, [.null, z0]))]) [1] (by decide) rfl
  have hFc := va_free (wc := [(q5, .inr (1, [.null, z0]))]) hD hS hA [1] rfl
  refine va_callv (va_runIN (As := []) (rest := [.ref q5, .ref h0]) ⟨hx, hb, hml, hown, hts⟩ (ct_X1 l D cI cB q5 H.size) ⟨va_cnB (host := "MovedMembers") 0 hts (good_all mX1_init (gm 100 (by decide +kernel) rfl)) rfl rfl rfl (hN _ (nm_ 98 (by decide +kernel) rfl)) (hts _ (gm 79 (by decide +kernel) rfl)) ⟨by decide +kernel, by decide +kernel, by decide +kernel⟩ ⟨Nat.le_of_ble_eq_true rfl, Nat.le_of_ble_eq_true rfl⟩, rfl, hts _ (gm 99 (by decide +kernel) rfl)⟩ (PC_pre hK hN hPc hDc) rfl rfl hl.1 rfl (lv_room (Nat.le_of_ble_eq_true rfl)) dX6_init_9 ⟨Nat.le_of_ble_eq_true rfl, Nat.le_of_ble_eq_true rfl⟩) hS (fun q _ h => hFc q h) hFc (fun u t H1 locs ht hvm h5 hB hz1 hk1 hS => ?_)
  obtain ⟨q5_q7, hP1, hD1⟩ := hB
  rw [ht] at hP1
  obtain ⟨hP, hD⟩ := va_join (wr := [(h0, .inr (6, [.null, .null, .null, .null, .null, .null, z0]))]) (w1 := [(q5, .inr (1, [.ref q5_q7, z0])), (q5_q7, ar cI 40)]) hP hD [1] [0] rfl rfl (by decide) (by decide) hk1 hFc hP1 hD1
  generalize H1 = H at hP hS ⊢
  have hP : va_P D vwCl [(h0, .inr (6, [.null, .null, .null, .null, .null, .null, z0])), (q5, .inr (1, [.ref q5_q7, z0])), (q5_q7, ar cI 40)] H := hP
  have hD : va_D A [(h0, .inr (6, [.null, .null, .null, .null, .null, .null, z0])), (q5, .inr (1, [.ref q5_q7, z0])), (q5_q7, ar cI 40)] := hD
  refine W.widen (k := 2) (n := 42) (Nat.le_of_ble_eq_true rfl) (Nat.le_of_ble_eq_true rfl) ?_
  refine va_putF (D := D) (ci := 6) (v := .ref q5) (ty := tyX6 0) (C := RX6) (T := TX6) (N := 7) hx hb hts layX6 tyX6 tyX6_ok nmX6 hown hK hP hD hS 0 rfl rfl 0 (by decide) (hts _ (gm 317 (by decide +kernel) rfl)) (fun _ h9 => h9) rfl hin rfl (tyX6_ok 0 (by decide)) rfl rfl (Nat.le_of_ble_eq_true rfl) dX6_init_12 (fun H locs hP hD hS => ?_)
  have hP : va_P D vwCl [(h0, .inr (6, [.ref q5, .null, .null, .null, .null, .null, z0])), (q5, .inr (1, [.ref q5_q7, z0])), (q5_q7, ar cI 40)] H := hP
  have hD : va_D A [(h0, .inr (6, [.ref q5, .null, .null, .null, .null, .null, z0])), (q5, .inr (1, [.ref q5_q7, z0])), (q5_q7, ar cI 40)] := hD
  refine lv_aload_n hx hb dX6_init_15 rfl (lv_at hl 0 rfl) ?_
  refine va_new (ci := 2) (fs := [.null, .null, .null, z0, z0, z0, z0, z0, z0]) (C := RX2) (T := TX2) (N := 9) hx hb hts layX2 tyX2 tyX2_ok hown (hts _ (gm 112 (by decide +kernel) rfl)) (hts _ (gm 113 (by decide +kernel) rfl)) (hts _ (gm 80 (by decide +kernel) rfl)) hK hP hD hS hA rfl (fun j hj => by rcases (show j = 0 ∨ j = 1 ∨ j = 2 ∨ j = 3 ∨ j = 4 ∨ j = 5 ∨ j = 6 ∨ j = 7 ∨ j = 8 by omega) with rfl | rfl | rfl | rfl | rfl | rfl | rfl | rfl | rfl <;> rfl) (Nat.le_of_ble_eq_true rfl) (Nat.le_of_ble_eq_true rfl) dX6_init_16 (fun q16 H hP hD hS => ?_)
  have hP : va_P D vwCl [(h0, .inr (6, [.ref q5, .null, .null, .null, .null, .null, z0])), (q5, .inr (1, [.ref q5_q7, z0])), (q5_q7, ar cI 40), (q16, .inr (2, [.null, .null, .null, z0, z0, z0, z0, z0, z0]))] H := hP
  have hD : va_D A [(h0, .inr (6, [.ref q5, .null, .null, .null, .null, .null, z0])), (q5, .inr (1, [.ref q5_q7, z0])), (q5_q7, ar cI 40), (q16, .inr (2, [.null, .null, .null, z0, z0, z0, z0, z0, z0]))] := hD
  refine W.widen (k := 3) (n := 51) (Nat.le_of_ble_eq_true rfl) (Nat.le_of_ble_eq_true rfl) ?_
  refine lv_dup hx hb dX6_init_19 rfl ?_
  have hPc := hP.sub (ws' := [(q16, .inr (2, [.null, .null, .null, z0, z0, z0, z0, z0, z0]))]) [3] rfl
  have hDc := hD.sub (ws' := [(q16, .inr (2, [.null, .null, .null, z0, z0, z0, z0, z0, z0]))]) [3] (by decide) rfl
  have hFc := va_free (wc := [(q16, .inr (2, [.null, .null, .null, z0, z0, z0, z0, z0, z0]))]) hD hS hA [3] rfl
  refine va_callv (va_runIN (As := []) (rest := [.ref q16, .ref h0]) ⟨hx, hb, hml, hown, hts⟩ (ct_X2 l D cI cB q16 H.size) ⟨va_cnB (host := "MovedMembers") 0 hts (good_all mX2_init (gm 116 (by decide +kernel) rfl)) rfl rfl rfl (hN _ (nm_ 114 (by decide +kernel) rfl)) (hts _ (gm 80 (by decide +kernel) rfl)) ⟨by decide +kernel, by decide +kernel, by decide +kernel⟩ ⟨Nat.le_of_ble_eq_true rfl, Nat.le_of_ble_eq_true rfl⟩, rfl, hts _ (gm 115 (by decide +kernel) rfl)⟩ (PC_pre hK hN hPc hDc) rfl rfl hl.1 rfl (lv_room (Nat.le_of_ble_eq_true rfl)) dX6_init_20 ⟨Nat.le_of_ble_eq_true rfl, Nat.le_of_ble_eq_true rfl⟩) hS (fun q _ h => hFc q h) hFc (fun u t H1 locs ht hvm h5 hB hz1 hk1 hS => ?_)
  obtain ⟨q16_q7, q16_q15, q16_q23, hP1, hD1⟩ := hB
  rw [ht] at hP1
  obtain ⟨hP, hD⟩ := va_join (wr := [(h0, .inr (6, [.ref q5, .null, .null, .null, .null, .null, z0])), (q5, .inr (1, [.ref q5_q7, z0])), (q5_q7, ar cI 40)]) (w1 := [(q16, .inr (2, [.ref q16_q7, .ref q16_q15, .ref q16_q23, z0, z0, z0, z0, z0, z0])), (q16_q7, ar cI 12), (q16_q15, ar cI 12), (q16_q23, ar cI 72)]) hP hD [3] [0, 1, 2] rfl rfl (by decide) (by decide) hk1 hFc hP1 hD1
  generalize H1 = H at hP hS ⊢
  have hP : va_P D vwCl [(h0, .inr (6, [.ref q5, .null, .null, .null, .null, .null, z0])), (q5, .inr (1, [.ref q5_q7, z0])), (q5_q7, ar cI 40), (q16, .inr (2, [.ref q16_q7, .ref q16_q15, .ref q16_q23, z0, z0, z0, z0, z0, z0])), (q16_q7, ar cI 12), (q16_q15, ar cI 12), (q16_q23, ar cI 72)] H := hP
  have hD : va_D A [(h0, .inr (6, [.ref q5, .null, .null, .null, .null, .null, z0])), (q5, .inr (1, [.ref q5_q7, z0])), (q5_q7, ar cI 40), (q16, .inr (2, [.ref q16_q7, .ref q16_q15, .ref q16_q23, z0, z0, z0, z0, z0, z0])), (q16_q7, ar cI 12), (q16_q15, ar cI 12), (q16_q23, ar cI 72)] := hD
  refine W.widen (k := 6) (n := 147) (Nat.le_of_ble_eq_true rfl) (Nat.le_of_ble_eq_true rfl) ?_
  refine va_putF (D := D) (ci := 6) (v := .ref q16) (ty := tyX6 1) (C := RX6) (T := TX6) (N := 7) hx hb hts layX6 tyX6 tyX6_ok nmX6 hown hK hP hD hS 0 rfl rfl 1 (by decide) (hts _ (gm 318 (by decide +kernel) rfl)) (fun _ h9 => h9) rfl hin rfl (tyX6_ok 1 (by decide)) rfl rfl (Nat.le_of_ble_eq_true rfl) dX6_init_23 (fun H locs hP hD hS => ?_)
  have hP : va_P D vwCl [(h0, .inr (6, [.ref q5, .ref q16, .null, .null, .null, .null, z0])), (q5, .inr (1, [.ref q5_q7, z0])), (q5_q7, ar cI 40), (q16, .inr (2, [.ref q16_q7, .ref q16_q15, .ref q16_q23, z0, z0, z0, z0, z0, z0])), (q16_q7, ar cI 12), (q16_q15, ar cI 12), (q16_q23, ar cI 72)] H := hP
  have hD : va_D A [(h0, .inr (6, [.ref q5, .ref q16, .null, .null, .null, .null, z0])), (q5, .inr (1, [.ref q5_q7, z0])), (q5_q7, ar cI 40), (q16, .inr (2, [.ref q16_q7, .ref q16_q15, .ref q16_q23, z0, z0, z0, z0, z0, z0])), (q16_q7, ar cI 12), (q16_q15, ar cI 12), (q16_q23, ar cI 72)] := hD
  refine lv_aload_n hx hb dX6_init_26 rfl (lv_at hl 0 rfl) ?_
  refine va_new (ci := 5) (fs := [.null, .null, .null, .null, .null, .null, .null, z0, z0, z0]) (C := RX5) (T := TX5) (N := 10) hx hb hts layX5 tyX5 tyX5_ok hown (hts _ (gm 149 (by decide +kernel) rfl)) (hts _ (gm 150 (by decide +kernel) rfl)) (hts _ (gm 81 (by decide +kernel) rfl)) hK hP hD hS hA rfl (fun j hj => by rcases (show j = 0 ∨ j = 1 ∨ j = 2 ∨ j = 3 ∨ j = 4 ∨ j = 5 ∨ j = 6 ∨ j = 7 ∨ j = 8 ∨ j = 9 by omega) with rfl | rfl | rfl | rfl | rfl | rfl | rfl | rfl | rfl | rfl <;> rfl) (Nat.le_of_ble_eq_true rfl) (Nat.le_of_ble_eq_true rfl) dX6_init_27 (fun q27 H hP hD hS => ?_)
  have hP : va_P D vwCl [(h0, .inr (6, [.ref q5, .ref q16, .null, .null, .null, .null, z0])), (q5, .inr (1, [.ref q5_q7, z0])), (q5_q7, ar cI 40), (q16, .inr (2, [.ref q16_q7, .ref q16_q15, .ref q16_q23, z0, z0, z0, z0, z0, z0])), (q16_q7, ar cI 12), (q16_q15, ar cI 12), (q16_q23, ar cI 72), (q27, .inr (5, [.null, .null, .null, .null, .null, .null, .null, z0, z0, z0]))] H := hP
  have hD : va_D A [(h0, .inr (6, [.ref q5, .ref q16, .null, .null, .null, .null, z0])), (q5, .inr (1, [.ref q5_q7, z0])), (q5_q7, ar cI 40), (q16, .inr (2, [.ref q16_q7, .ref q16_q15, .ref q16_q23, z0, z0, z0, z0, z0, z0])), (q16_q7, ar cI 12), (q16_q15, ar cI 12), (q16_q23, ar cI 72), (q27, .inr (5, [.null, .null, .null, .null, .null, .null, .null, z0, z0, z0]))] := hD
  refine W.widen (k := 7) (n := 157) (Nat.le_of_ble_eq_true rfl) (Nat.le_of_ble_eq_true rfl) ?_
  refine lv_dup hx hb dX6_init_30 rfl ?_
  have hPc := hP.sub (ws' := [(q27, .inr (5, [.null, .null, .null, .null, .null, .null, .null, z0, z0, z0]))]) [7] rfl
  have hDc := hD.sub (ws' := [(q27, .inr (5, [.null, .null, .null, .null, .null, .null, .null, z0, z0, z0]))]) [7] (by decide) rfl
  have hFc := va_free (wc := [(q27, .inr (5, [.null, .null, .null, .null, .null, .null, .null, z0, z0, z0]))]) hD hS hA [7] rfl
  refine va_callv (va_runIN (As := []) (rest := [.ref q27, .ref h0]) ⟨hx, hb, hml, hown, hts⟩ (ct_X5 l D cI cB q27 H.size) ⟨va_cnB (host := "MovedMembers") 0 hts (good_all mX5_init (gm 153 (by decide +kernel) rfl)) rfl rfl rfl (hN _ (nm_ 151 (by decide +kernel) rfl)) (hts _ (gm 81 (by decide +kernel) rfl)) ⟨by decide +kernel, by decide +kernel, by decide +kernel⟩ ⟨Nat.le_of_ble_eq_true rfl, Nat.le_of_ble_eq_true rfl⟩, rfl, hts _ (gm 152 (by decide +kernel) rfl)⟩ (PC_pre hK hN hPc hDc) rfl rfl hl.1 rfl (lv_room (Nat.le_of_ble_eq_true rfl)) dX6_init_31 ⟨Nat.le_of_ble_eq_true rfl, Nat.le_of_ble_eq_true rfl⟩) hS (fun q _ h => hFc q h) hFc (fun u t H1 locs ht hvm h5 hB hz1 hk1 hS => ?_)
  obtain ⟨q27_q7, q27_q15, q27_q23, q27_q31, q27_q39, q27_q47, q27_q56, hP1, hD1⟩ := hB
  rw [ht] at hP1
  obtain ⟨hP, hD⟩ := va_join (wr := [(h0, .inr (6, [.ref q5, .ref q16, .null, .null, .null, .null, z0])), (q5, .inr (1, [.ref q5_q7, z0])), (q5_q7, ar cI 40), (q16, .inr (2, [.ref q16_q7, .ref q16_q15, .ref q16_q23, z0, z0, z0, z0, z0, z0])), (q16_q7, ar cI 12), (q16_q15, ar cI 12), (q16_q23, ar cI 72)]) (w1 := [(q27, .inr (5, [.ref q27_q7, .ref q27_q15, .ref q27_q23, .ref q27_q31, .ref q27_q39, .ref q27_q47, .ref q27_q56, z0, z0, z0])), (q27_q7, ar cI 8), (q27_q15, ar cB 8), (q27_q23, ar cI 96), (q27_q31, ar cI 8), (q27_q39, ar cI 8), (q27_q47, ar cI 40), (q27_q56, ar cI 240)]) hP hD [7] [0, 1, 2, 3, 4, 5, 6] rfl rfl (by decide) (by decide) hk1 hFc hP1 hD1
  generalize H1 = H at hP hS ⊢
  have hP : va_P D vwCl [(h0, .inr (6, [.ref q5, .ref q16, .null, .null, .null, .null, z0])), (q5, .inr (1, [.ref q5_q7, z0])), (q5_q7, ar cI 40), (q16, .inr (2, [.ref q16_q7, .ref q16_q15, .ref q16_q23, z0, z0, z0, z0, z0, z0])), (q16_q7, ar cI 12), (q16_q15, ar cI 12), (q16_q23, ar cI 72), (q27, .inr (5, [.ref q27_q7, .ref q27_q15, .ref q27_q23, .ref q27_q31, .ref q27_q39, .ref q27_q47, .ref q27_q56, z0, z0, z0])), (q27_q7, ar cI 8), (q27_q15, ar cB 8), (q27_q23, ar cI 96), (q27_q31, ar cI 8), (q27_q39, ar cI 8), (q27_q47, ar cI 40), (q27_q56, ar cI 240)] H := hP
  have hD : va_D A [(h0, .inr (6, [.ref q5, .ref q16, .null, .null, .null, .null, z0])), (q5, .inr (1, [.ref q5_q7, z0])), (q5_q7, ar cI 40), (q16, .inr (2, [.ref q16_q7, .ref q16_q15, .ref q16_q23, z0, z0, z0, z0, z0, z0])), (q16_q7, ar cI 12), (q16_q15, ar cI 12), (q16_q23, ar cI 72), (q27, .inr (5, [.ref q27_q7, .ref q27_q15, .ref q27_q23, .ref q27_q31, .ref q27_q39, .ref q27_q47, .ref q27_q56, z0, z0, z0])), (q27_q7, ar cI 8), (q27_q15, ar cB 8), (q27_q23, ar cI 96), (q27_q31, ar cI 8), (q27_q39, ar cI 8), (q27_q47, ar cI 40), (q27_q56, ar cI 240)] := hD
  refine W.widen (k := 14) (n := 565) (Nat.le_of_ble_eq_true rfl) (Nat.le_of_ble_eq_true rfl) ?_
  refine va_putF (D := D) (ci := 6) (v := .ref q27) (ty := tyX6 2) (C := RX6) (T := TX6) (N := 7) hx hb hts layX6 tyX6 tyX6_ok nmX6 hown hK hP hD hS 0 rfl rfl 2 (by decide) (hts _ (gm 319 (by decide +kernel) rfl)) (fun _ h9 => h9) rfl hin rfl (tyX6_ok 2 (by decide)) rfl rfl (Nat.le_of_ble_eq_true rfl) dX6_init_34 (fun H locs hP hD hS => ?_)
  have hP : va_P D vwCl [(h0, .inr (6, [.ref q5, .ref q16, .ref q27, .null, .null, .null, z0])), (q5, .inr (1, [.ref q5_q7, z0])), (q5_q7, ar cI 40), (q16, .inr (2, [.ref q16_q7, .ref q16_q15, .ref q16_q23, z0, z0, z0, z0, z0, z0])), (q16_q7, ar cI 12), (q16_q15, ar cI 12), (q16_q23, ar cI 72), (q27, .inr (5, [.ref q27_q7, .ref q27_q15, .ref q27_q23, .ref q27_q31, .ref q27_q39, .ref q27_q47, .ref q27_q56, z0, z0, z0])), (q27_q7, ar cI 8), (q27_q15, ar cB 8), (q27_q23, ar cI 96), (q27_q31, ar cI 8), (q27_q39, ar cI 8), (q27_q47, ar cI 40), (q27_q56, ar cI 240)] H := hP
  have hD : va_D A [(h0, .inr (6, [.ref q5, .ref q16, .ref q27, .null, .null, .null, z0])), (q5, .inr (1, [.ref q5_q7, z0])), (q5_q7, ar cI 40), (q16, .inr (2, [.ref q16_q7, .ref q16_q15, .ref q16_q23, z0, z0, z0, z0, z0, z0])), (q16_q7, ar cI 12), (q16_q15, ar cI 12), (q16_q23, ar cI 72), (q27, .inr (5, [.ref q27_q7, .ref q27_q15, .ref q27_q23, .ref q27_q31, .ref q27_q39, .ref q27_q47, .ref q27_q56, z0, z0, z0])), (q27_q7, ar cI 8), (q27_q15, ar cB 8), (q27_q23, ar cI 96), (q27_q31, ar cI 8), (q27_q39, ar cI 8), (q27_q47, ar cI 40), (q27_q56, ar cI 240)] := hD
  refine va_new (ci := 4) (fs := [.null, .null, .null, .null, .null, lz, z0, z0, z0]) (C := RX4) (T := TX4) (N := 9) hx hb hts layX4 tyX4 tyX4_ok hown (hts _ (gm 193 (by decide +kernel) rfl)) (hts _ (gm 194 (by decide +kernel) rfl)) (hts _ (gm 82 (by decide +kernel) rfl)) hK hP hD hS hA rfl (fun j hj => by rcases (show j = 0 ∨ j = 1 ∨ j = 2 ∨ j = 3 ∨ j = 4 ∨ j = 5 ∨ j = 6 ∨ j = 7 ∨ j = 8 by omega) with rfl | rfl | rfl | rfl | rfl | rfl | rfl | rfl | rfl <;> rfl) (Nat.le_of_ble_eq_true rfl) (Nat.le_of_ble_eq_true rfl) dX6_init_37 (fun q37 H hP hD hS => ?_)
  have hP : va_P D vwCl [(h0, .inr (6, [.ref q5, .ref q16, .ref q27, .null, .null, .null, z0])), (q5, .inr (1, [.ref q5_q7, z0])), (q5_q7, ar cI 40), (q16, .inr (2, [.ref q16_q7, .ref q16_q15, .ref q16_q23, z0, z0, z0, z0, z0, z0])), (q16_q7, ar cI 12), (q16_q15, ar cI 12), (q16_q23, ar cI 72), (q27, .inr (5, [.ref q27_q7, .ref q27_q15, .ref q27_q23, .ref q27_q31, .ref q27_q39, .ref q27_q47, .ref q27_q56, z0, z0, z0])), (q27_q7, ar cI 8), (q27_q15, ar cB 8), (q27_q23, ar cI 96), (q27_q31, ar cI 8), (q27_q39, ar cI 8), (q27_q47, ar cI 40), (q27_q56, ar cI 240), (q37, .inr (4, [.null, .null, .null, .null, .null, lz, z0, z0, z0]))] H := hP
  have hD : va_D A [(h0, .inr (6, [.ref q5, .ref q16, .ref q27, .null, .null, .null, z0])), (q5, .inr (1, [.ref q5_q7, z0])), (q5_q7, ar cI 40), (q16, .inr (2, [.ref q16_q7, .ref q16_q15, .ref q16_q23, z0, z0, z0, z0, z0, z0])), (q16_q7, ar cI 12), (q16_q15, ar cI 12), (q16_q23, ar cI 72), (q27, .inr (5, [.ref q27_q7, .ref q27_q15, .ref q27_q23, .ref q27_q31, .ref q27_q39, .ref q27_q47, .ref q27_q56, z0, z0, z0])), (q27_q7, ar cI 8), (q27_q15, ar cB 8), (q27_q23, ar cI 96), (q27_q31, ar cI 8), (q27_q39, ar cI 8), (q27_q47, ar cI 40), (q27_q56, ar cI 240), (q37, .inr (4, [.null, .null, .null, .null, .null, lz, z0, z0, z0]))] := hD
  refine W.widen (k := 15) (n := 574) (Nat.le_of_ble_eq_true rfl) (Nat.le_of_ble_eq_true rfl) ?_
  refine lv_dup hx hb dX6_init_40 rfl ?_
  refine lv_aload_n hx hb dX6_init_41 rfl (lv_at hl 0 rfl) ?_
  refine va_get (D := D) (ci := 6) (C := RX6) (T := TX6) (N := 7) hx hb hts layX6 hown hK hP 0 rfl rfl 2 (by decide) (hts _ (gm 319 (by decide +kernel) rfl)) (fun _ h9 => h9) (v := .ref q27) rfl dX6_init_42 ?_
  have hPc := hP.sub (ws' := [(q37, .inr (4, [.null, .null, .null, .null, .null, lz, z0, z0, z0]))]) [15] rfl
  have hDc := hD.sub (ws' := [(q37, .inr (4, [.null, .null, .null, .null, .null, lz, z0, z0, z0]))]) [15] (by decide) rfl
  have hFc := va_free (wc := [(q37, .inr (4, [.null, .null, .null, .null, .null, lz, z0, z0, z0]))]) hD hS hA [15] rfl
  refine va_callv (va_runI (As := [.ref q27]) (rest := [.ref q37]) ⟨hx, hb, hml, hown, hts⟩ (ct_X4 l D cI cB q37 q27 H.size) ⟨callB_of 1 hts (good_all mX4_init (gm 197 (by decide +kernel) rfl)) rfl rfl rfl (hts _ (gm 82 (by decide +kernel) rfl)) (hts _ (gm 195 (by decide +kernel) rfl)) ⟨by decide +kernel, by decide +kernel, by decide +kernel⟩ ⟨Nat.le_of_ble_eq_true rfl, Nat.le_of_ble_eq_true rfl⟩, rfl, hts _ (gm 196 (by decide +kernel) rfl)⟩ (PC_pre hK hN hPc hDc) rfl rfl hl.1 rfl (lv_room (Nat.le_of_ble_eq_true rfl)) dX6_init_45 ⟨Nat.le_of_ble_eq_true rfl, Nat.le_of_ble_eq_true rfl⟩) hS (fun q _ h => hFc q h) hFc (fun u t H1 locs ht hvm h5 hB hz1 hk1 hS => ?_)
  obtain ⟨q37_q7, q37_q15, q37_q23, q37_q31, hP1, hD1⟩ := hB
  rw [ht] at hP1
  obtain ⟨hP, hD⟩ := va_join (wr := [(h0, .inr (6, [.ref q5, .ref q16, .ref q27, .null, .null, .null, z0])), (q5, .inr (1, [.ref q5_q7, z0])), (q5_q7, ar cI 40), (q16, .inr (2, [.ref q16_q7, .ref q16_q15, .ref q16_q23, z0, z0, z0, z0, z0, z0])), (q16_q7, ar cI 12), (q16_q15, ar cI 12), (q16_q23, ar cI 72), (q27, .inr (5, [.ref q27_q7, .ref q27_q15, .ref q27_q23, .ref q27_q31, .ref q27_q39, .ref q27_q47, .ref q27_q56, z0, z0, z0])), (q27_q7, ar cI 8), (q27_q15, ar cB 8), (q27_q23, ar cI 96), (q27_q31, ar cI 8), (q27_q39, ar cI 8), (q27_q47, ar cI 40), (q27_q56, ar cI 240)]) (w1 := [(q37, .inr (4, [.ref q27, .ref q37_q7, .ref q37_q15, .ref q37_q23, .ref q37_q31, lz, z0, z0, z0])), (q37_q7, ar cI 60), (q37_q15, ar cI 40), (q37_q23, ar cI 40), (q37_q31, ar cI 40)]) hP hD [15] [0, 1, 2, 3, 4, 5, 6, 7, 8, 9, 10, 11, 12, 13, 14] rfl rfl (by decide) (by decide) hk1 hFc hP1 hD1
  generalize H1 = H at hP hS ⊢
  have hP : va_P D vwCl [(h0, .inr (6, [.ref q5, .ref q16, .ref q27, .null, .null, .null, z0])), (q5, .inr (1, [.ref q5_q7, z0])), (q5_q7, ar cI 40), (q16, .inr (2, [.ref q16_q7, .ref q16_q15, .ref q16_q23, z0, z0, z0, z0, z0, z0])), (q16_q7, ar cI 12), (q16_q15, ar cI 12), (q16_q23, ar cI 72), (q27, .inr (5, [.ref q27_q7, .ref q27_q15, .ref q27_q23, .ref q27_q31, .ref q27_q39, .ref q27_q47, .ref q27_q56, z0, z0, z0])), (q27_q7, ar cI 8), (q27_q15, ar cB 8), (q27_q23, ar cI 96), (q27_q31, ar cI 8), (q27_q39, ar cI 8), (q27_q47, ar cI 40), (q27_q56, ar cI 240), (q37, .inr (4, [.ref q27, .ref q37_q7, .ref q37_q15, .ref q37_q23, .ref q37_q31, lz, z0, z0, z0])), (q37_q7, ar cI 60), (q37_q15, ar cI 40), (q37_q23, ar cI 40), (q37_q31, ar cI 40)] H := hP
  have hD : va_D A [(h0, .inr (6, [.ref q5, .ref q16, .ref q27, .null, .null, .null, z0])), (q5, .inr (1, [.ref q5_q7, z0])), (q5_q7, ar cI 40), (q16, .inr (2, [.ref q16_q7, .ref q16_q15, .ref q16_q23, z0, z0, z0, z0, z0, z0])), (q16_q7, ar cI 12), (q16_q15, ar cI 12), (q16_q23, ar cI 72), (q27, .inr (5, [.ref q27_q7, .ref q27_q15, .ref q27_q23, .ref q27_q31, .ref q27_q39, .ref q27_q47, .ref q27_q56, z0, z0, z0])), (q27_q7, ar cI 8), (q27_q15, ar cB 8), (q27_q23, ar cI 96), (q27_q31, ar cI 8), (q27_q39, ar cI 8), (q27_q47, ar cI 40), (q27_q56, ar cI 240), (q37, .inr (4, [.ref q27, .ref q37_q7, .ref q37_q15, .ref q37_q23, .ref q37_q31, lz, z0, z0, z0])), (q37_q7, ar cI 60), (q37_q15, ar cI 40), (q37_q23, ar cI 40), (q37_q31, ar cI 40)] := hD
  refine W.widen (k := 19) (n := 754) (Nat.le_of_ble_eq_true rfl) (Nat.le_of_ble_eq_true rfl) ?_
  refine lv_astore_n (lv' := [(1, .ref q37), (0, .ref h0)]) hx hb dX6_init_48 rfl hl (by decide) rfl (fun ls hl => ?_)
  refine lv_aload_n hx hb dX6_init_49 rfl (lv_at hl 1 rfl) ?_
  refine va_new (ci := 3) (fs := [.null, .null, .null, .null, .null, lz, z0, z0]) (C := RX3) (T := TX3) (N := 8) hx hb hts layX3 tyX3 tyX3_ok hown (hts _ (gm 229 (by decide +kernel) rfl)) (hts _ (gm 230 (by decide +kernel) rfl)) (hts _ (gm 83 (by decide +kernel) rfl)) hK hP hD hS hA rfl (fun j hj => by rcases (show j = 0 ∨ j = 1 ∨ j = 2 ∨ j = 3 ∨ j = 4 ∨ j = 5 ∨ j = 6 ∨ j = 7 by omega) with rfl | rfl | rfl | rfl | rfl | rfl | rfl | rfl <;> rfl) (Nat.le_of_ble_eq_true rfl) (Nat.le_of_ble_eq_true rfl) dX6_init_50 (fun q50 H hP hD hS => ?_)
  have hP : va_P D vwCl [(h0, .inr (6, [.ref q5, .ref q16, .ref q27, .null, .null, .null, z0])), (q5, .inr (1, [.ref q5_q7, z0])), (q5_q7, ar cI 40), (q16, .inr (2, [.ref q16_q7, .ref q16_q15, .ref q16_q23, z0, z0, z0, z0, z0, z0])), (q16_q7, ar cI 12), (q16_q15, ar cI 12), (q16_q23, ar cI 72), (q27, .inr (5, [.ref q27_q7, .ref q27_q15, .ref q27_q23, .ref q27_q31, .ref q27_q39, .ref q27_q47, .ref q27_q56, z0, z0, z0])), (q27_q7, ar cI 8), (q27_q15, ar cB 8), (q27_q23, ar cI 96), (q27_q31, ar cI 8), (q27_q39, ar cI 8), (q27_q47, ar cI 40), (q27_q56, ar cI 240), (q37, .inr (4, [.ref q27, .ref q37_q7, .ref q37_q15, .ref q37_q23, .ref q37_q31, lz, z0, z0, z0])), (q37_q7, ar cI 60), (q37_q15, ar cI 40), (q37_q23, ar cI 40), (q37_q31, ar cI 40), (q50, .inr (3, [.null, .null, .null, .null, .null, lz, z0, z0]))] H := hP
  have hD : va_D A [(h0, .inr (6, [.ref q5, .ref q16, .ref q27, .null, .null, .null, z0])), (q5, .inr (1, [.ref q5_q7, z0])), (q5_q7, ar cI 40), (q16, .inr (2, [.ref q16_q7, .ref q16_q15, .ref q16_q23, z0, z0, z0, z0, z0, z0])), (q16_q7, ar cI 12), (q16_q15, ar cI 12), (q16_q23, ar cI 72), (q27, .inr (5, [.ref q27_q7, .ref q27_q15, .ref q27_q23, .ref q27_q31, .ref q27_q39, .ref q27_q47, .ref q27_q56, z0, z0, z0])), (q27_q7, ar cI 8), (q27_q15, ar cB 8), (q27_q23, ar cI 96), (q27_q31, ar cI 8), (q27_q39, ar cI 8), (q27_q47, ar cI 40), (q27_q56, ar cI 240), (q37, .inr (4, [.ref q27, .ref q37_q7, .ref q37_q15, .ref q37_q23, .ref q37_q31, lz, z0, z0, z0])), (q37_q7, ar cI 60), (q37_q15, ar cI 40), (q37_q23, ar cI 40), (q37_q31, ar cI 40), (q50, .inr (3, [.null, .null, .null, .null, .null, lz, z0, z0]))] := hD
  refine W.widen (k := 20) (n := 762) (Nat.le_of_ble_eq_true rfl) (Nat.le_of_ble_eq_true rfl) ?_
  refine lv_dup hx hb dX6_init_53 rfl ?_
  refine lv_aload_n hx hb dX6_init_54 rfl (lv_at hl 1 rfl) ?_
  refine va_get (D := D) (ci := 6) (C := RX6) (T := TX6) (N := 7) hx hb hts layX6 hown hK hP 0 rfl rfl 2 (by decide) (hts _ (gm 319 (by decide +kernel) rfl)) (fun _ h9 => h9) (v := .ref q27) rfl dX6_init_55 ?_
  refine lv_aload_n hx hb dX6_init_58 rfl (lv_at hl 0 rfl) ?_
  have hPc := hP.sub (ws' := [(q50, .inr (3, [.null, .null, .null, .null, .null, lz, z0, z0]))]) [20] rfl
  have hDc := hD.sub (ws' := [(q50, .inr (3, [.null, .null, .null, .null, .null, lz, z0, z0]))]) [20] (by decide) rfl
  have hFc := va_free (wc := [(q50, .inr (3, [.null, .null, .null, .null, .null, lz, z0, z0]))]) hD hS hA [20] rfl
  refine va_callv (va_runI (As := [.ref q27, .ref q37]) (rest := [.ref q50, .ref h0]) ⟨hx, hb, hml, hown, hts⟩ (ct_X3 l D cI cB q50 q27 q37 H.size) ⟨callB_of 2 hts (good_all mX3_init (gm 233 (by decide +kernel) rfl)) rfl rfl rfl (hts _ (gm 83 (by decide +kernel) rfl)) (hts _ (gm 231 (by decide +kernel) rfl)) ⟨by decide +kernel, by decide +kernel, by decide +kernel⟩ ⟨Nat.le_of_ble_eq_true rfl, Nat.le_of_ble_eq_true rfl⟩, rfl, hts _ (gm 232 (by decide +kernel) rfl)⟩ (PC_pre hK hN hPc hDc) rfl rfl hl.1 rfl (lv_room (Nat.le_of_ble_eq_true rfl)) dX6_init_59 ⟨Nat.le_of_ble_eq_true rfl, Nat.le_of_ble_eq_true rfl⟩) hS (fun q _ h => hFc q h) hFc (fun u t H1 locs ht hvm h5 hB hz1 hk1 hS => ?_)
  obtain ⟨q50_q8, q50_q16, q50_q24, hP1, hD1⟩ := hB
  rw [ht] at hP1
  obtain ⟨hP, hD⟩ := va_join (wr := [(h0, .inr (6, [.ref q5, .ref q16, .ref q27, .null, .null, .null, z0])), (q5, .inr (1, [.ref q5_q7, z0])), (q5_q7, ar cI 40), (q16, .inr (2, [.ref q16_q7, .ref q16_q15, .ref q16_q23, z0, z0, z0, z0, z0, z0])), (q16_q7, ar cI 12), (q16_q15, ar cI 12), (q16_q23, ar cI 72), (q27, .inr (5, [.ref q27_q7, .ref q27_q15, .ref q27_q23, .ref q27_q31, .ref q27_q39, .ref q27_q47, .ref q27_q56, z0, z0, z0])), (q27_q7, ar cI 8), (q27_q15, ar cB 8), (q27_q23, ar cI 96), (q27_q31, ar cI 8), (q27_q39, ar cI 8), (q27_q47, ar cI 40), (q27_q56, ar cI 240), (q37, .inr (4, [.ref q27, .ref q37_q7, .ref q37_q15, .ref q37_q23, .ref q37_q31, lz, z0, z0, z0])), (q37_q7, ar cI 60), (q37_q15, ar cI 40), (q37_q23, ar cI 40), (q37_q31, ar cI 40)]) (w1 := [(q50, .inr (3, [.ref q27, .ref q37, .ref q50_q8, .ref q50_q16, .ref q50_q24, lz, z0, m1])), (q50_q8, ar cI 2880), (q50_q16, ar cI 48), (q50_q24, ar cI 48)]) hP hD [20] [0, 1, 2, 3, 4, 5, 6, 7, 8, 9, 10, 11, 12, 13, 14, 15, 16, 17, 18, 19] rfl rfl (by decide) (by decide) hk1 hFc hP1 hD1
  generalize H1 = H at hP hS ⊢
  have hP : va_P D vwCl [(h0, .inr (6, [.ref q5, .ref q16, .ref q27, .null, .null, .null, z0])), (q5, .inr (1, [.ref q5_q7, z0])), (q5_q7, ar cI 40), (q16, .inr (2, [.ref q16_q7, .ref q16_q15, .ref q16_q23, z0, z0, z0, z0, z0, z0])), (q16_q7, ar cI 12), (q16_q15, ar cI 12), (q16_q23, ar cI 72), (q27, .inr (5, [.ref q27_q7, .ref q27_q15, .ref q27_q23, .ref q27_q31, .ref q27_q39, .ref q27_q47, .ref q27_q56, z0, z0, z0])), (q27_q7, ar cI 8), (q27_q15, ar cB 8), (q27_q23, ar cI 96), (q27_q31, ar cI 8), (q27_q39, ar cI 8), (q27_q47, ar cI 40), (q27_q56, ar cI 240), (q37, .inr (4, [.ref q27, .ref q37_q7, .ref q37_q15, .ref q37_q23, .ref q37_q31, lz, z0, z0, z0])), (q37_q7, ar cI 60), (q37_q15, ar cI 40), (q37_q23, ar cI 40), (q37_q31, ar cI 40), (q50, .inr (3, [.ref q27, .ref q37, .ref q50_q8, .ref q50_q16, .ref q50_q24, lz, z0, m1])), (q50_q8, ar cI 2880), (q50_q16, ar cI 48), (q50_q24, ar cI 48)] H := hP
  have hD : va_D A [(h0, .inr (6, [.ref q5, .ref q16, .ref q27, .null, .null, .null, z0])), (q5, .inr (1, [.ref q5_q7, z0])), (q5_q7, ar cI 40), (q16, .inr (2, [.ref q16_q7, .ref q16_q15, .ref q16_q23, z0, z0, z0, z0, z0, z0])), (q16_q7, ar cI 12), (q16_q15, ar cI 12), (q16_q23, ar cI 72), (q27, .inr (5, [.ref q27_q7, .ref q27_q15, .ref q27_q23, .ref q27_q31, .ref q27_q39, .ref q27_q47, .ref q27_q56, z0, z0, z0])), (q27_q7, ar cI 8), (q27_q15, ar cB 8), (q27_q23, ar cI 96), (q27_q31, ar cI 8), (q27_q39, ar cI 8), (q27_q47, ar cI 40), (q27_q56, ar cI 240), (q37, .inr (4, [.ref q27, .ref q37_q7, .ref q37_q15, .ref q37_q23, .ref q37_q31, lz, z0, z0, z0])), (q37_q7, ar cI 60), (q37_q15, ar cI 40), (q37_q23, ar cI 40), (q37_q31, ar cI 40), (q50, .inr (3, [.ref q27, .ref q37, .ref q50_q8, .ref q50_q16, .ref q50_q24, lz, z0, m1])), (q50_q8, ar cI 2880), (q50_q16, ar cI 48), (q50_q24, ar cI 48)] := hD
  refine W.widen (k := 23) (n := 3738) (Nat.le_of_ble_eq_true rfl) (Nat.le_of_ble_eq_true rfl) ?_
  refine va_putF (D := D) (ci := 6) (v := .ref q50) (ty := tyX6 3) (C := RX6) (T := TX6) (N := 7) hx hb hts layX6 tyX6 tyX6_ok nmX6 hown hK hP hD hS 0 rfl rfl 3 (by decide) (hts _ (gm 320 (by decide +kernel) rfl)) (fun _ h9 => h9) rfl hin rfl (tyX6_ok 3 (by decide)) rfl rfl (Nat.le_of_ble_eq_true rfl) dX6_init_62 (fun H locs hP hD hS => ?_)
  have hP : va_P D vwCl [(h0, .inr (6, [.ref q5, .ref q16, .ref q27, .ref q50, .null, .null, z0])), (q5, .inr (1, [.ref q5_q7, z0])), (q5_q7, ar cI 40), (q16, .inr (2, [.ref q16_q7, .ref q16_q15, .ref q16_q23, z0, z0, z0, z0, z0, z0])), (q16_q7, ar cI 12), (q16_q15, ar cI 12), (q16_q23, ar cI 72), (q27, .inr (5, [.ref q27_q7, .ref q27_q15, .ref q27_q23, .ref q27_q31, .ref q27_q39, .ref q27_q47, .ref q27_q56, z0, z0, z0])), (q27_q7, ar cI 8), (q27_q15, ar cB 8), (q27_q23, ar cI 96), (q27_q31, ar cI 8), (q27_q39, ar cI 8), (q27_q47, ar cI 40), (q27_q56, ar cI 240), (q37, .inr (4, [.ref q27, .ref q37_q7, .ref q37_q15, .ref q37_q23, .ref q37_q31, lz, z0, z0, z0])), (q37_q7, ar cI 60), (q37_q15, ar cI 40), (q37_q23, ar cI 40), (q37_q31, ar cI 40), (q50, .inr (3, [.ref q27, .ref q37, .ref q50_q8, .ref q50_q16, .ref q50_q24, lz, z0, m1])), (q50_q8, ar cI 2880), (q50_q16, ar cI 48), (q50_q24, ar cI 48)] H := hP
  have hD : va_D A [(h0, .inr (6, [.ref q5, .ref q16, .ref q27, .ref q50, .null, .null, z0])), (q5, .inr (1, [.ref q5_q7, z0])), (q5_q7, ar cI 40), (q16, .inr (2, [.ref q16_q7, .ref q16_q15, .ref q16_q23, z0, z0, z0, z0, z0, z0])), (q16_q7, ar cI 12), (q16_q15, ar cI 12), (q16_q23, ar cI 72), (q27, .inr (5, [.ref q27_q7, .ref q27_q15, .ref q27_q23, .ref q27_q31, .ref q27_q39, .ref q27_q47, .ref q27_q56, z0, z0, z0])), (q27_q7, ar cI 8), (q27_q15, ar cB 8), (q27_q23, ar cI 96), (q27_q31, ar cI 8), (q27_q39, ar cI 8), (q27_q47, ar cI 40), (q27_q56, ar cI 240), (q37, .inr (4, [.ref q27, .ref q37_q7, .ref q37_q15, .ref q37_q23, .ref q37_q31, lz, z0, z0, z0])), (q37_q7, ar cI 60), (q37_q15, ar cI 40), (q37_q23, ar cI 40), (q37_q31, ar cI 40), (q50, .inr (3, [.ref q27, .ref q37, .ref q50_q8, .ref q50_q16, .ref q50_q24, lz, z0, m1])), (q50_q8, ar cI 2880), (q50_q16, ar cI 48), (q50_q24, ar cI 48)] := hD
  refine lv_aload_n hx hb dX6_init_65 rfl (lv_at hl 1 rfl) ?_
  refine va_new (ci := 0) (fs := [.null, .null, .null, .null, .null, .null, z0, z0, z0, z0, z0, z0, z0, z0]) (C := RX0) (T := TX0) (N := 14) hx hb hts layX0 tyX0 tyX0_ok hown (hts _ (gm 261 (by decide +kernel) rfl)) (hts _ (gm 262 (by decide +kernel) rfl)) (hts _ (gm 84 (by decide +kernel) rfl)) hK hP hD hS hA rfl (fun j hj => by rcases (show j = 0 ∨ j = 1 ∨ j = 2 ∨ j = 3 ∨ j = 4 ∨ j = 5 ∨ j = 6 ∨ j = 7 ∨ j = 8 ∨ j = 9 ∨ j = 10 ∨ j = 11 ∨ j = 12 ∨ j = 13 by omega) with rfl | rfl | rfl | rfl | rfl | rfl | rfl | rfl | rfl | rfl | rfl | rfl | rfl | rfl <;> rfl) (Nat.le_of_ble_eq_true rfl) (Nat.le_of_ble_eq_true rfl) dX6_init_66 (fun q66 H hP hD hS => ?_)
  have hP : va_P D vwCl [(h0, .inr (6, [.ref q5, .ref q16, .ref q27, .ref q50, .null, .null, z0])), (q5, .inr (1, [.ref q5_q7, z0])), (q5_q7, ar cI 40), (q16, .inr (2, [.ref q16_q7, .ref q16_q15, .ref q16_q23, z0, z0, z0, z0, z0, z0])), (q16_q7, ar cI 12), (q16_q15, ar cI 12), (q16_q23, ar cI 72), (q27, .inr (5, [.ref q27_q7, .ref q27_q15, .ref q27_q23, .ref q27_q31, .ref q27_q39, .ref q27_q47, .ref q27_q56, z0, z0, z0])), (q27_q7, ar cI 8), (q27_q15, ar cB 8), (q27_q23, ar cI 96), (q27_q31, ar cI 8), (q27_q39, ar cI 8), (q27_q47, ar cI 40), (q27_q56, ar cI 240), (q37, .inr (4, [.ref q27, .ref q37_q7, .ref q37_q15, .ref q37_q23, .ref q37_q31, lz, z0, z0, z0])), (q37_q7, ar cI 60), (q37_q15, ar cI 40), (q37_q23, ar cI 40), (q37_q31, ar cI 40), (q50, .inr (3, [.ref q27, .ref q37, .ref q50_q8, .ref q50_q16, .ref q50_q24, lz, z0, m1])), (q50_q8, ar cI 2880), (q50_q16, ar cI 48), (q50_q24, ar cI 48), (q66, .inr (0, [.null, .null, .null, .null, .null, .null, z0, z0, z0, z0, z0, z0, z0, z0]))] H := hP
  have hD : va_D A [(h0, .inr (6, [.ref q5, .ref q16, .ref q27, .ref q50, .null, .null, z0])), (q5, .inr (1, [.ref q5_q7, z0])), (q5_q7, ar cI 40), (q16, .inr (2, [.ref q16_q7, .ref q16_q15, .ref q16_q23, z0, z0, z0, z0, z0, z0])), (q16_q7, ar cI 12), (q16_q15, ar cI 12), (q16_q23, ar cI 72), (q27, .inr (5, [.ref q27_q7, .ref q27_q15, .ref q27_q23, .ref q27_q31, .ref q27_q39, .ref q27_q47, .ref q27_q56, z0, z0, z0])), (q27_q7, ar cI 8), (q27_q15, ar cB 8), (q27_q23, ar cI 96), (q27_q31, ar cI 8), (q27_q39, ar cI 8), (q27_q47, ar cI 40), (q27_q56, ar cI 240), (q37, .inr (4, [.ref q27, .ref q37_q7, .ref q37_q15, .ref q37_q23, .ref q37_q31, lz, z0, z0, z0])), (q37_q7, ar cI 60), (q37_q15, ar cI 40), (q37_q23, ar cI 40), (q37_q31, ar cI 40), (q50, .inr (3, [.ref q27, .ref q37, .ref q50_q8, .ref q50_q16, .ref q50_q24, lz, z0, m1])), (q50_q8, ar cI 2880), (q50_q16, ar cI 48), (q50_q24, ar cI 48), (q66, .inr (0, [.null, .null, .null, .null, .null, .null, z0, z0, z0, z0, z0, z0, z0, z0]))] := hD
  refine W.widen (k := 24) (n := 3752) (Nat.le_of_ble_eq_true rfl) (Nat.le_of_ble_eq_true rfl) ?_
  refine lv_dup hx hb dX6_init_69 rfl ?_
  refine lv_aload_n hx hb dX6_init_70 rfl (lv_at hl 1 rfl) ?_
  refine va_get (D := D) (ci := 6) (C := RX6) (T := TX6) (N := 7) hx hb hts layX6 hown hK hP 0 rfl rfl 2 (by decide) (hts _ (gm 319 (by decide +kernel) rfl)) (fun _ h9 => h9) (v := .ref q27) rfl dX6_init_71 ?_
  refine lv_aload_n hx hb dX6_init_74 rfl (lv_at hl 0 rfl) ?_
  refine lv_aload_n hx hb dX6_init_75 rfl (lv_at hl 1 rfl) ?_
  refine va_get (D := D) (ci := 6) (C := RX6) (T := TX6) (N := 7) hx hb hts layX6 hown hK hP 0 rfl rfl 3 (by decide) (hts _ (gm 320 (by decide +kernel) rfl)) (fun _ h9 => h9) (v := .ref q50) rfl dX6_init_76 ?_
  have hPc := hP.sub (ws' := [(q66, .inr (0, [.null, .null, .null, .null, .null, .null, z0, z0, z0, z0, z0, z0, z0, z0]))]) [24] rfl
  have hDc := hD.sub (ws' := [(q66, .inr (0, [.null, .null, .null, .null, .null, .null, z0, z0, z0, z0, z0, z0, z0, z0]))]) [24] (by decide) rfl
  have hFc := va_free (wc := [(q66, .inr (0, [.null, .null, .null, .null, .null, .null, z0, z0, z0, z0, z0, z0, z0, z0]))]) hD hS hA [24] rfl
  refine va_callv (va_runI (As := [.ref q27, .ref q37, .ref q50]) (rest := [.ref q66, .ref h0]) ⟨hx, hb, hml, hown, hts⟩ (ct_X0 l D cI cB q66 q27 q37 q50 H.size) ⟨callB_of 3 hts (good_all mX0_init (gm 265 (by decide +kernel) rfl)) rfl rfl rfl (hts _ (gm 84 (by decide +kernel) rfl)) (hts _ (gm 263 (by decide +kernel) rfl)) ⟨by decide +kernel, by decide +kernel, by decide +kernel⟩ ⟨Nat.le_of_ble_eq_true rfl, Nat.le_of_ble_eq_true rfl⟩, rfl, hts _ (gm 264 (by decide +kernel) rfl)⟩ (PC_pre hK hN hPc hDc) rfl rfl hl.1 rfl (lv_room (Nat.le_of_ble_eq_true rfl)) dX6_init_79 ⟨Nat.le_of_ble_eq_true rfl, Nat.le_of_ble_eq_true rfl⟩) hS (fun q _ h => hFc q h) hFc (fun u t H1 locs ht hvm h5 hB hz1 hk1 hS => ?_)
  obtain ⟨q66_q8, q66_q16, q66_q24, hP1, hD1⟩ := hB
  rw [ht] at hP1
  obtain ⟨hP, hD⟩ := va_join (wr := [(h0, .inr (6, [.ref q5, .ref q16, .ref q27, .ref q50, .null, .null, z0])), (q5, .inr (1, [.ref q5_q7, z0])), (q5_q7, ar cI 40), (q16, .inr (2, [.ref q16_q7, .ref q16_q15, .ref q16_q23, z0, z0, z0, z0, z0, z0])), (q16_q7, ar cI 12), (q16_q15, ar cI 12), (q16_q23, ar cI 72), (q27, .inr (5, [.ref q27_q7, .ref q27_q15, .ref q27_q23, .ref q27_q31, .ref q27_q39, .ref q27_q47, .ref q27_q56, z0, z0, z0])), (q27_q7, ar cI 8), (q27_q15, ar cB 8), (q27_q23, ar cI 96), (q27_q31, ar cI 8), (q27_q39, ar cI 8), (q27_q47, ar cI 40), (q27_q56, ar cI 240), (q37, .inr (4, [.ref q27, .ref q37_q7, .ref q37_q15, .ref q37_q23, .ref q37_q31, lz, z0, z0, z0])), (q37_q7, ar cI 60), (q37_q15, ar cI 40), (q37_q23, ar cI 40), (q37_q31, ar cI 40), (q50, .inr (3, [.ref q27, .ref q37, .ref q50_q8, .ref q50_q16, .ref q50_q24, lz, z0, m1])), (q50_q8, ar cI 2880), (q50_q16, ar cI 48), (q50_q24, ar cI 48)]) (w1 := [(q66, .inr (0, [.ref q27, .ref q37, .ref q50, .ref q66_q8, .ref q66_q16, .ref q66_q24, z0, z0, z0, m1, z0, z0, z0, m1])), (q66_q8, ar cI 168), (q66_q16, ar cI 21), (q66_q24, ar cI 21)]) hP hD [24] [0, 1, 2, 3, 4, 5, 6, 7, 8, 9, 10, 11, 12, 13, 14, 15, 16, 17, 18, 19, 20, 21, 22, 23] rfl rfl (by decide) (by decide) hk1 hFc hP1 hD1
  generalize H1 = H at hP hS ⊢
  have hP : va_P D vwCl [(h0, .inr (6, [.ref q5, .ref q16, .ref q27, .ref q50, .null, .null, z0])), (q5, .inr (1, [.ref q5_q7, z0])), (q5_q7, ar cI 40), (q16, .inr (2, [.ref q16_q7, .ref q16_q15, .ref q16_q23, z0, z0, z0, z0, z0, z0])), (q16_q7, ar cI 12), (q16_q15, ar cI 12), (q16_q23, ar cI 72), (q27, .inr (5, [.ref q27_q7, .ref q27_q15, .ref q27_q23, .ref q27_q31, .ref q27_q39, .ref q27_q47, .ref q27_q56, z0, z0, z0])), (q27_q7, ar cI 8), (q27_q15, ar cB 8), (q27_q23, ar cI 96), (q27_q31, ar cI 8), (q27_q39, ar cI 8), (q27_q47, ar cI 40), (q27_q56, ar cI 240), (q37, .inr (4, [.ref q27, .ref q37_q7, .ref q37_q15, .ref q37_q23, .ref q37_q31, lz, z0, z0, z0])), (q37_q7, ar cI 60), (q37_q15, ar cI 40), (q37_q23, ar cI 40), (q37_q31, ar cI 40), (q50, .inr (3, [.ref q27, .ref q37, .ref q50_q8, .ref q50_q16, .ref q50_q24, lz, z0, m1])), (q50_q8, ar cI 2880), (q50_q16, ar cI 48), (q50_q24, ar cI 48), (q66, .inr (0, [.ref q27, .ref q37, .ref q50, .ref q66_q8, .ref q66_q16, .ref q66_q24, z0, z0, z0, m1, z0, z0, z0, m1])), (q66_q8, ar cI 168), (q66_q16, ar cI 21), (q66_q24, ar cI 21)] H := hP
  have hD : va_D A [(h0, .inr (6, [.ref q5, .ref q16, .ref q27, .ref q50, .null, .null, z0])), (q5, .inr (1, [.ref q5_q7, z0])), (q5_q7, ar cI 40), (q16, .inr (2, [.ref q16_q7, .ref q16_q15, .ref q16_q23, z0, z0, z0, z0, z0, z0])), (q16_q7, ar cI 12), (q16_q15, ar cI 12), (q16_q23, ar cI 72), (q27, .inr (5, [.ref q27_q7, .ref q27_q15, .ref q27_q23, .ref q27_q31, .ref q27_q39, .ref q27_q47, .ref q27_q56, z0, z0, z0])), (q27_q7, ar cI 8), (q27_q15, ar cB 8), (q27_q23, ar cI 96), (q27_q31, ar cI 8), (q27_q39, ar cI 8), (q27_q47, ar cI 40), (q27_q56, ar cI 240), (q37, .inr (4, [.ref q27, .ref q37_q7, .ref q37_q15, .ref q37_q23, .ref q37_q31, lz, z0, z0, z0])), (q37_q7, ar cI 60), (q37_q15, ar cI 40), (q37_q23, ar cI 40), (q37_q31, ar cI 40), (q50, .inr (3, [.ref q27, .ref q37, .ref q50_q8, .ref q50_q16, .ref q50_q24, lz, z0, m1])), (q50_q8, ar cI 2880), (q50_q16, ar cI 48), (q50_q24, ar cI 48), (q66, .inr (0, [.ref q27, .ref q37, .ref q50, .ref q66_q8, .ref q66_q16, .ref q66_q24, z0, z0, z0, m1, z0, z0, z0, m1])), (q66_q8, ar cI 168), (q66_q16, ar cI 21), (q66_q24, ar cI 21)] := hD
  refine W.widen (k := 27) (n := 3962) (Nat.le_of_ble_eq_true rfl) (Nat.le_of_ble_eq_true rfl) ?_
  refine va_putF (D := D) (ci := 6) (v := .ref q66) (ty := tyX6 4) (C := RX6) (T := TX6) (N := 7) hx hb hts layX6 tyX6 tyX6_ok nmX6 hown hK hP hD hS 0 rfl rfl 4 (by decide) (hts _ (gm 321 (by decide +kernel) rfl)) (fun _ h9 => h9) rfl hin rfl (tyX6_ok 4 (by decide)) rfl rfl (Nat.le_of_ble_eq_true rfl) dX6_init_82 (fun H locs hP hD hS => ?_)
  have hP : va_P D vwCl [(h0, .inr (6, [.ref q5, .ref q16, .ref q27, .ref q50, .ref q66, .null, z0])), (q5, .inr (1, [.ref q5_q7, z0])), (q5_q7, ar cI 40), (q16, .inr (2, [.ref q16_q7, .ref q16_q15, .ref q16_q23, z0, z0, z0, z0, z0, z0])), (q16_q7, ar cI 12), (q16_q15, ar cI 12), (q16_q23, ar cI 72), (q27, .inr (5, [.ref q27_q7, .ref q27_q15, .ref q27_q23, .ref q27_q31, .ref q27_q39, .ref q27_q47, .ref q27_q56, z0, z0, z0])), (q27_q7, ar cI 8), (q27_q15, ar cB 8), (q27_q23, ar cI 96), (q27_q31, ar cI 8), (q27_q39, ar cI 8), (q27_q47, ar cI 40), (q27_q56, ar cI 240), (q37, .inr (4, [.ref q27, .ref q37_q7, .ref q37_q15, .ref q37_q23, .ref q37_q31, lz, z0, z0, z0])), (q37_q7, ar cI 60), (q37_q15, ar cI 40), (q37_q23, ar cI 40), (q37_q31, ar cI 40), (q50, .inr (3, [.ref q27, .ref q37, .ref q50_q8, .ref q50_q16, .ref q50_q24, lz, z0, m1])), (q50_q8, ar cI 2880), (q50_q16, ar cI 48), (q50_q24, ar cI 48), (q66, .inr (0, [.ref q27, .ref q37, .ref q50, .ref q66_q8, .ref q66_q16, .ref q66_q24, z0, z0, z0, m1, z0, z0, z0, m1])), (q66_q8, ar cI 168), (q66_q16, ar cI 21), (q66_q24, ar cI 21)] H := hP
  have hD : va_D A [(h0, .inr (6, [.ref q5, .ref q16, .ref q27, .ref q50, .ref q66, .null, z0])), (q5, .inr (1, [.ref q5_q7, z0])), (q5_q7, ar cI 40), (q16, .inr (2, [.ref q16_q7, .ref q16_q15, .ref q16_q23, z0, z0, z0, z0, z0, z0])), (q16_q7, ar cI 12), (q16_q15, ar cI 12), (q16_q23, ar cI 72), (q27, .inr (5, [.ref q27_q7, .ref q27_q15, .ref q27_q23, .ref q27_q31, .ref q27_q39, .ref q27_q47, .ref q27_q56, z0, z0, z0])), (q27_q7, ar cI 8), (q27_q15, ar cB 8), (q27_q23, ar cI 96), (q27_q31, ar cI 8), (q27_q39, ar cI 8), (q27_q47, ar cI 40), (q27_q56, ar cI 240), (q37, .inr (4, [.ref q27, .ref q37_q7, .ref q37_q15, .ref q37_q23, .ref q37_q31, lz, z0, z0, z0])), (q37_q7, ar cI 60), (q37_q15, ar cI 40), (q37_q23, ar cI 40), (q37_q31, ar cI 40), (q50, .inr (3, [.ref q27, .ref q37, .ref q50_q8, .ref q50_q16, .ref q50_q24, lz, z0, m1])), (q50_q8, ar cI 2880), (q50_q16, ar cI 48), (q50_q24, ar cI 48), (q66, .inr (0, [.ref q27, .ref q37, .ref q50, .ref q66_q8, .ref q66_q16, .ref q66_q24, z0, z0, z0, m1, z0, z0, z0, m1])), (q66_q8, ar cI 168), (q66_q16, ar cI 21), (q66_q24, ar cI 21)] := hD
  refine lv_aload_n hx hb dX6_init_85 rfl (lv_at hl 1 rfl) ?_
  refine lv_bipush (v := Int32.ofInt 6) hx hb dX6_init_86 (by decide) ?_
  refine vnew_i (N := 6) hx hb hts hK hP hD hS hA (by decide) (by decide) (Nat.le_of_ble_eq_true rfl) (Nat.le_of_ble_eq_true rfl) (Nat.le_of_ble_eq_true rfl) dX6_init_88 (fun q88 H hP hD hS => ?_)
  have hP : va_P D vwCl [(h0, .inr (6, [.ref q5, .ref q16, .ref q27, .ref q50, .ref q66, .null, z0])), (q5, .inr (1, [.ref q5_q7, z0])), (q5_q7, ar cI 40), (q16, .inr (2, [.ref q16_q7, .ref q16_q15, .ref q16_q23, z0, z0, z0, z0, z0, z0])), (q16_q7, ar cI 12), (q16_q15, ar cI 12), (q16_q23, ar cI 72), (q27, .inr (5, [.ref q27_q7, .ref q27_q15, .ref q27_q23, .ref q27_q31, .ref q27_q39, .ref q27_q47, .ref q27_q56, z0, z0, z0])), (q27_q7, ar cI 8), (q27_q15, ar cB 8), (q27_q23, ar cI 96), (q27_q31, ar cI 8), (q27_q39, ar cI 8), (q27_q47, ar cI 40), (q27_q56, ar cI 240), (q37, .inr (4, [.ref q27, .ref q37_q7, .ref q37_q15, .ref q37_q23, .ref q37_q31, lz, z0, z0, z0])), (q37_q7, ar cI 60), (q37_q15, ar cI 40), (q37_q23, ar cI 40), (q37_q31, ar cI 40), (q50, .inr (3, [.ref q27, .ref q37, .ref q50_q8, .ref q50_q16, .ref q50_q24, lz, z0, m1])), (q50_q8, ar cI 2880), (q50_q16, ar cI 48), (q50_q24, ar cI 48), (q66, .inr (0, [.ref q27, .ref q37, .ref q50, .ref q66_q8, .ref q66_q16, .ref q66_q24, z0, z0, z0, m1, z0, z0, z0, m1])), (q66_q8, ar cI 168), (q66_q16, ar cI 21), (q66_q24, ar cI 21), (q88, ar cI 6)] H := hP
  have hD : va_D A [(h0, .inr (6, [.ref q5, .ref q16, .ref q27, .ref q50, .ref q66, .null, z0])), (q5, .inr (1, [.ref q5_q7, z0])), (q5_q7, ar cI 40), (q16, .inr (2, [.ref q16_q7, .ref q16_q15, .ref q16_q23, z0, z0, z0, z0, z0, z0])), (q16_q7, ar cI 12), (q16_q15, ar cI 12), (q16_q23, ar cI 72), (q27, .inr (5, [.ref q27_q7, .ref q27_q15, .ref q27_q23, .ref q27_q31, .ref q27_q39, .ref q27_q47, .ref q27_q56, z0, z0, z0])), (q27_q7, ar cI 8), (q27_q15, ar cB 8), (q27_q23, ar cI 96), (q27_q31, ar cI 8), (q27_q39, ar cI 8), (q27_q47, ar cI 40), (q27_q56, ar cI 240), (q37, .inr (4, [.ref q27, .ref q37_q7, .ref q37_q15, .ref q37_q23, .ref q37_q31, lz, z0, z0, z0])), (q37_q7, ar cI 60), (q37_q15, ar cI 40), (q37_q23, ar cI 40), (q37_q31, ar cI 40), (q50, .inr (3, [.ref q27, .ref q37, .ref q50_q8, .ref q50_q16, .ref q50_q24, lz, z0, m1])), (q50_q8, ar cI 2880), (q50_q16, ar cI 48), (q50_q24, ar cI 48), (q66, .inr (0, [.ref q27, .ref q37, .ref q50, .ref q66_q8, .ref q66_q16, .ref q66_q24, z0, z0, z0, m1, z0, z0, z0, m1])), (q66_q8, ar cI 168), (q66_q16, ar cI 21), (q66_q24, ar cI 21), (q88, ar cI 6)] := hD
  refine W.widen (k := 28) (n := 3968) (Nat.le_of_ble_eq_true rfl) (Nat.le_of_ble_eq_true rfl) ?_
  refine va_putF (D := D) (ci := 6) (v := .ref q88) (ty := tyX6 5) (C := RX6) (T := TX6) (N := 7) hx hb hts layX6 tyX6 tyX6_ok nmX6 hown hK hP hD hS 0 rfl rfl 5 (by decide) (hts _ (gm 322 (by decide +kernel) rfl)) (fun _ h9 => h9) rfl hin rfl (tyX6_ok 5 (by decide)) rfl rfl (Nat.le_of_ble_eq_true rfl) dX6_init_90 (fun H locs hP hD hS => ?_)
  have hP : va_P D vwCl [(h0, .inr (6, [.ref q5, .ref q16, .ref q27, .ref q50, .ref q66, .ref q88, z0])), (q5, .inr (1, [.ref q5_q7, z0])), (q5_q7, ar cI 40), (q16, .inr (2, [.ref q16_q7, .ref q16_q15, .ref q16_q23, z0, z0, z0, z0, z0, z0])), (q16_q7, ar cI 12), (q16_q15, ar cI 12), (q16_q23, ar cI 72), (q27, .inr (5, [.ref q27_q7, .ref q27_q15, .ref q27_q23, .ref q27_q31, .ref q27_q39, .ref q27_q47, .ref q27_q56, z0, z0, z0])), (q27_q7, ar cI 8), (q27_q15, ar cB 8), (q27_q23, ar cI 96), (q27_q31, ar cI 8), (q27_q39, ar cI 8), (q27_q47, ar cI 40), (q27_q56, ar cI 240), (q37, .inr (4, [.ref q27, .ref q37_q7, .ref q37_q15, .ref q37_q23, .ref q37_q31, lz, z0, z0, z0])), (q37_q7, ar cI 60), (q37_q15, ar cI 40), (q37_q23, ar cI 40), (q37_q31, ar cI 40), (q50, .inr (3, [.ref q27, .ref q37, .ref q50_q8, .ref q50_q16, .ref q50_q24, lz, z0, m1])), (q50_q8, ar cI 2880), (q50_q16, ar cI 48), (q50_q24, ar cI 48), (q66, .inr (0, [.ref q27, .ref q37, .ref q50, .ref q66_q8, .ref q66_q16, .ref q66_q24, z0, z0, z0, m1, z0, z0, z0, m1])), (q66_q8, ar cI 168), (q66_q16, ar cI 21), (q66_q24, ar cI 21), (q88, ar cI 6)] H := hP
  have hD : va_D A [(h0, .inr (6, [.ref q5, .ref q16, .ref q27, .ref q50, .ref q66, .ref q88, z0])), (q5, .inr (1, [.ref q5_q7, z0])), (q5_q7, ar cI 40), (q16, .inr (2, [.ref q16_q7, .ref q16_q15, .ref q16_q23, z0, z0, z0, z0, z0, z0])), (q16_q7, ar cI 12), (q16_q15, ar cI 12), (q16_q23, ar cI 72), (q27, .inr (5, [.ref q27_q7, .ref q27_q15, .ref q27_q23, .ref q27_q31, .ref q27_q39, .ref q27_q47, .ref q27_q56, z0, z0, z0])), (q27_q7, ar cI 8), (q27_q15, ar cB 8), (q27_q23, ar cI 96), (q27_q31, ar cI 8), (q27_q39, ar cI 8), (q27_q47, ar cI 40), (q27_q56, ar cI 240), (q37, .inr (4, [.ref q27, .ref q37_q7, .ref q37_q15, .ref q37_q23, .ref q37_q31, lz, z0, z0, z0])), (q37_q7, ar cI 60), (q37_q15, ar cI 40), (q37_q23, ar cI 40), (q37_q31, ar cI 40), (q50, .inr (3, [.ref q27, .ref q37, .ref q50_q8, .ref q50_q16, .ref q50_q24, lz, z0, m1])), (q50_q8, ar cI 2880), (q50_q16, ar cI 48), (q50_q24, ar cI 48), (q66, .inr (0, [.ref q27, .ref q37, .ref q50, .ref q66_q8, .ref q66_q16, .ref q66_q24, z0, z0, z0, m1, z0, z0, z0, m1])), (q66_q8, ar cI 168), (q66_q16, ar cI 21), (q66_q24, ar cI 21), (q88, ar cI 6)] := hD
  refine lv_aload_n hx hb dX6_init_93 rfl (lv_at hl 1 rfl) ?_
  refine lv_iconst (v := Int32.ofInt 0) hx hb dX6_init_94 (by decide) ?_
  refine va_put (D := D) (ci := 6) (v := .int (Int32.ofInt 0)) (ty := tyX6 6) (C := RX6) (T := TX6) (N := 7) hx hb hts layX6 tyX6 tyX6_ok nmX6 hown hK hP hD hS 0 rfl rfl 6 (by decide) (hts _ (gm 323 (by decide +kernel) rfl)) (fun _ h9 => h9) rfl (tyX6_ok 6 (by decide)) rfl rfl (Nat.le_of_ble_eq_true rfl) dX6_init_95 (fun H locs hP hD hS => ?_)
  have hP : va_P D vwCl [(h0, .inr (6, [.ref q5, .ref q16, .ref q27, .ref q50, .ref q66, .ref q88, z0])), (q5, .inr (1, [.ref q5_q7, z0])), (q5_q7, ar cI 40), (q16, .inr (2, [.ref q16_q7, .ref q16_q15, .ref q16_q23, z0, z0, z0, z0, z0, z0])), (q16_q7, ar cI 12), (q16_q15, ar cI 12), (q16_q23, ar cI 72), (q27, .inr (5, [.ref q27_q7, .ref q27_q15, .ref q27_q23, .ref q27_q31, .ref q27_q39, .ref q27_q47, .ref q27_q56, z0, z0, z0])), (q27_q7, ar cI 8), (q27_q15, ar cB 8), (q27_q23, ar cI 96), (q27_q31, ar cI 8), (q27_q39, ar cI 8), (q27_q47, ar cI 40), (q27_q56, ar cI 240), (q37, .inr (4, [.ref q27, .ref q37_q7, .ref q37_q15, .ref q37_q23, .ref q37_q31, lz, z0, z0, z0])), (q37_q7, ar cI 60), (q37_q15, ar cI 40), (q37_q23, ar cI 40), (q37_q31, ar cI 40), (q50, .inr (3, [.ref q27, .ref q37, .ref q50_q8, .ref q50_q16, .ref q50_q24, lz, z0, m1])), (q50_q8, ar cI 2880), (q50_q16, ar cI 48), (q50_q24, ar cI 48), (q66, .inr (0, [.ref q27, .ref q37, .ref q50, .ref q66_q8, .ref q66_q16, .ref q66_q24, z0, z0, z0, m1, z0, z0, z0, m1])), (q66_q8, ar cI 168), (q66_q16, ar cI 21), (q66_q24, ar cI 21), (q88, ar cI 6)] H := hP
  have hD : va_D A [(h0, .inr (6, [.ref q5, .ref q16, .ref q27, .ref q50, .ref q66, .ref q88, z0])), (q5, .inr (1, [.ref q5_q7, z0])), (q5_q7, ar cI 40), (q16, .inr (2, [.ref q16_q7, .ref q16_q15, .ref q16_q23, z0, z0, z0, z0, z0, z0])), (q16_q7, ar cI 12), (q16_q15, ar cI 12), (q16_q23, ar cI 72), (q27, .inr (5, [.ref q27_q7, .ref q27_q15, .ref q27_q23, .ref q27_q31, .ref q27_q39, .ref q27_q47, .ref q27_q56, z0, z0, z0])), (q27_q7, ar cI 8), (q27_q15, ar cB 8), (q27_q23, ar cI 96), (q27_q31, ar cI 8), (q27_q39, ar cI 8), (q27_q47, ar cI 40), (q27_q56, ar cI 240), (q37, .inr (4, [.ref q27, .ref q37_q7, .ref q37_q15, .ref q37_q23, .ref q37_q31, lz, z0, z0, z0])), (q37_q7, ar cI 60), (q37_q15, ar cI 40), (q37_q23, ar cI 40), (q37_q31, ar cI 40), (q50, .inr (3, [.ref q27, .ref q37, .ref q50_q8, .ref q50_q16, .ref q50_q24, lz, z0, m1])), (q50_q8, ar cI 2880), (q50_q16, ar cI 48), (q50_q24, ar cI 48), (q66, .inr (0, [.ref q27, .ref q37, .ref q50, .ref q66_q8, .ref q66_q16, .ref q66_q24, z0, z0, z0, m1, z0, z0, z0, m1])), (q66_q8, ar cI 168), (q66_q16, ar cI 21), (q66_q24, ar cI 21), (q88, ar cI 6)] := hD
  exact W.vret hx hb hr (fun t ht hW => ⟨⟨(), rfl, trivial, q5, q5_q7, q16, q16_q7, q16_q15, q16_q23, q27, q27_q7, q27_q15, q27_q23, q27_q31, q27_q39, q27_q47, q27_q56, q37, q37_q7, q37_q15, q37_q23, q37_q31, q50, q50_q8, q50_q16, q50_q24, q66, q66_q8, q66_q16, q66_q24, q88, by rw [ht]; exact hP, hD⟩, hS.F ht⟩) hS.2.2 dX6_init_98
