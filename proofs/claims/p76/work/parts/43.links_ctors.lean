theorem dX0_init_0 : decode cX0_init 0 = .ok (.aload_n 0, 1) := by decide +kernel
theorem dX0_init_1 : decode cX0_init 1 = .ok (.invokespecial 3, 3) := by decide +kernel
theorem dX0_init_4 : decode cX0_init 4 = .ok (.aload_n 0, 1) := by decide +kernel
theorem dX0_init_5 : decode cX0_init 5 = .ok (.iconst 0, 1) := by decide +kernel
theorem dX0_init_6 : decode cX0_init 6 = .ok (.putfield 9, 3) := by decide +kernel
theorem dX0_init_9 : decode cX0_init 9 = .ok (.aload_n 0, 1) := by decide +kernel
theorem dX0_init_10 : decode cX0_init 10 = .ok (.bipush 30, 2) := by decide +kernel
theorem dX0_init_12 : decode cX0_init 12 = .ok (.newarray .int, 2) := by decide +kernel
theorem dX0_init_14 : decode cX0_init 14 = .ok (.putfield 15, 3) := by decide +kernel
theorem dX0_init_17 : decode cX0_init 17 = .ok (.aload_n 0, 1) := by decide +kernel
theorem dX0_init_18 : decode cX0_init 18 = .ok (.sipush 240, 3) := by decide +kernel
theorem dX0_init_21 : decode cX0_init 21 = .ok (.newarray .int, 2) := by decide +kernel
theorem dX0_init_23 : decode cX0_init 23 = .ok (.putfield 19, 3) := by decide +kernel
theorem dX0_init_26 : decode cX0_init 26 = .ok (.return_, 1) := by decide +kernel
theorem dX1_init_0 : decode cX1_init 0 = .ok (.aload_n 0, 1) := by decide +kernel
theorem dX1_init_1 : decode cX1_init 1 = .ok (.invokespecial 3, 3) := by decide +kernel
theorem dX1_init_4 : decode cX1_init 4 = .ok (.aload_n 0, 1) := by decide +kernel
theorem dX1_init_5 : decode cX1_init 5 = .ok (.iconst (-1), 1) := by decide +kernel
theorem dX1_init_6 : decode cX1_init 6 = .ok (.putfield 9, 3) := by decide +kernel
theorem dX1_init_9 : decode cX1_init 9 = .ok (.aload_n 0, 1) := by decide +kernel
theorem dX1_init_10 : decode cX1_init 10 = .ok (.bipush 8, 2) := by decide +kernel
theorem dX1_init_12 : decode cX1_init 12 = .ok (.newarray .long, 2) := by decide +kernel
theorem dX1_init_14 : decode cX1_init 14 = .ok (.putfield 15, 3) := by decide +kernel
theorem dX1_init_17 : decode cX1_init 17 = .ok (.aload_n 0, 1) := by decide +kernel
theorem dX1_init_18 : decode cX1_init 18 = .ok (.lconst 1, 1) := by decide +kernel
theorem dX1_init_19 : decode cX1_init 19 = .ok (.putfield 19, 3) := by decide +kernel
theorem dX1_init_22 : decode cX1_init 22 = .ok (.aload_n 0, 1) := by decide +kernel
theorem dX1_init_23 : decode cX1_init 23 = .ok (.aload_n 1, 1) := by decide +kernel
theorem dX1_init_24 : decode cX1_init 24 = .ok (.putfield 23, 3) := by decide +kernel
theorem dX1_init_27 : decode cX1_init 27 = .ok (.return_, 1) := by decide +kernel
theorem dX2_init_0 : decode cX2_init 0 = .ok (.aload_n 0, 1) := by decide +kernel
theorem dX2_init_1 : decode cX2_init 1 = .ok (.invokespecial 3, 3) := by decide +kernel
theorem dX2_init_4 : decode cX2_init 4 = .ok (.aload_n 0, 1) := by decide +kernel
theorem dX2_init_5 : decode cX2_init 5 = .ok (.iconst 0, 1) := by decide +kernel
theorem dX2_init_6 : decode cX2_init 6 = .ok (.putfield 9, 3) := by decide +kernel
theorem dX2_init_9 : decode cX2_init 9 = .ok (.aload_n 0, 1) := by decide +kernel
theorem dX2_init_10 : decode cX2_init 10 = .ok (.iconst 0, 1) := by decide +kernel
theorem dX2_init_11 : decode cX2_init 11 = .ok (.putfield 15, 3) := by decide +kernel
theorem dX2_init_14 : decode cX2_init 14 = .ok (.aload_n 0, 1) := by decide +kernel
theorem dX2_init_15 : decode cX2_init 15 = .ok (.iconst 0, 1) := by decide +kernel
theorem dX2_init_16 : decode cX2_init 16 = .ok (.putfield 18, 3) := by decide +kernel
theorem dX2_init_19 : decode cX2_init 19 = .ok (.aload_n 0, 1) := by decide +kernel
theorem dX2_init_20 : decode cX2_init 20 = .ok (.iconst 0, 1) := by decide +kernel
theorem dX2_init_21 : decode cX2_init 21 = .ok (.putfield 21, 3) := by decide +kernel
theorem dX2_init_24 : decode cX2_init 24 = .ok (.aload_n 0, 1) := by decide +kernel
theorem dX2_init_25 : decode cX2_init 25 = .ok (.iconst 0, 1) := by decide +kernel
theorem dX2_init_26 : decode cX2_init 26 = .ok (.putfield 24, 3) := by decide +kernel
theorem dX2_init_29 : decode cX2_init 29 = .ok (.aload_n 0, 1) := by decide +kernel
theorem dX2_init_30 : decode cX2_init 30 = .ok (.iconst 0, 1) := by decide +kernel
theorem dX2_init_31 : decode cX2_init 31 = .ok (.putfield 27, 3) := by decide +kernel
theorem dX2_init_34 : decode cX2_init 34 = .ok (.aload_n 0, 1) := by decide +kernel
theorem dX2_init_35 : decode cX2_init 35 = .ok (.iconst 0, 1) := by decide +kernel
theorem dX2_init_36 : decode cX2_init 36 = .ok (.putfield 30, 3) := by decide +kernel
theorem dX2_init_39 : decode cX2_init 39 = .ok (.aload_n 0, 1) := by decide +kernel
theorem dX2_init_40 : decode cX2_init 40 = .ok (.iconst 0, 1) := by decide +kernel
theorem dX2_init_41 : decode cX2_init 41 = .ok (.putfield 33, 3) := by decide +kernel
theorem dX2_init_44 : decode cX2_init 44 = .ok (.aload_n 0, 1) := by decide +kernel
theorem dX2_init_45 : decode cX2_init 45 = .ok (.iconst 0, 1) := by decide +kernel
theorem dX2_init_46 : decode cX2_init 46 = .ok (.putfield 36, 3) := by decide +kernel
theorem dX2_init_49 : decode cX2_init 49 = .ok (.aload_n 0, 1) := by decide +kernel
theorem dX2_init_50 : decode cX2_init 50 = .ok (.iconst 4, 1) := by decide +kernel
theorem dX2_init_51 : decode cX2_init 51 = .ok (.newarray .int, 2) := by decide +kernel
theorem dX2_init_53 : decode cX2_init 53 = .ok (.putfield 39, 3) := by decide +kernel
theorem dX2_init_56 : decode cX2_init 56 = .ok (.aload_n 0, 1) := by decide +kernel
theorem dX2_init_57 : decode cX2_init 57 = .ok (.bipush 7, 2) := by decide +kernel
theorem dX2_init_59 : decode cX2_init 59 = .ok (.newarray .int, 2) := by decide +kernel
theorem dX2_init_61 : decode cX2_init 61 = .ok (.putfield 43, 3) := by decide +kernel
theorem dX2_init_64 : decode cX2_init 64 = .ok (.aload_n 0, 1) := by decide +kernel
theorem dX2_init_65 : decode cX2_init 65 = .ok (.bipush 28, 2) := by decide +kernel
theorem dX2_init_67 : decode cX2_init 67 = .ok (.newarray .int, 2) := by decide +kernel
theorem dX2_init_69 : decode cX2_init 69 = .ok (.putfield 46, 3) := by decide +kernel
theorem dX2_init_72 : decode cX2_init 72 = .ok (.aload_n 0, 1) := by decide +kernel
theorem dX2_init_73 : decode cX2_init 73 = .ok (.bipush 7, 2) := by decide +kernel
theorem dX2_init_75 : decode cX2_init 75 = .ok (.newarray .int, 2) := by decide +kernel
theorem dX2_init_77 : decode cX2_init 77 = .ok (.putfield 49, 3) := by decide +kernel
theorem dX2_init_80 : decode cX2_init 80 = .ok (.aload_n 0, 1) := by decide +kernel
theorem dX2_init_81 : decode cX2_init 81 = .ok (.bipush 8, 2) := by decide +kernel
theorem dX2_init_83 : decode cX2_init 83 = .ok (.newarray .int, 2) := by decide +kernel
theorem dX2_init_85 : decode cX2_init 85 = .ok (.putfield 52, 3) := by decide +kernel
theorem dX2_init_88 : decode cX2_init 88 = .ok (.aload_n 0, 1) := by decide +kernel
theorem dX2_init_89 : decode cX2_init 89 = .ok (.bipush 8, 2) := by decide +kernel
theorem dX2_init_91 : decode cX2_init 91 = .ok (.newarray .int, 2) := by decide +kernel
theorem dX2_init_93 : decode cX2_init 93 = .ok (.putfield 55, 3) := by decide +kernel
theorem dX2_init_96 : decode cX2_init 96 = .ok (.aload_n 0, 1) := by decide +kernel
theorem dX2_init_97 : decode cX2_init 97 = .ok (.new 58, 3) := by decide +kernel
theorem dX2_init_100 : decode cX2_init 100 = .ok (.dup, 1) := by decide +kernel
theorem dX2_init_101 : decode cX2_init 101 = .ok (.invokespecial 60, 3) := by decide +kernel
theorem dX2_init_104 : decode cX2_init 104 = .ok (.putfield 61, 3) := by decide +kernel
theorem dX2_init_107 : decode cX2_init 107 = .ok (.return_, 1) := by decide +kernel
theorem dX3_init_0 : decode cX3_init 0 = .ok (.aload_n 0, 1) := by decide +kernel
theorem dX3_init_1 : decode cX3_init 1 = .ok (.invokespecial 3, 3) := by decide +kernel
theorem dX3_init_4 : decode cX3_init 4 = .ok (.aload_n 0, 1) := by decide +kernel
theorem dX3_init_5 : decode cX3_init 5 = .ok (.bipush 7, 2) := by decide +kernel
theorem dX3_init_7 : decode cX3_init 7 = .ok (.newarray .int, 2) := by decide +kernel
theorem dX3_init_9 : decode cX3_init 9 = .ok (.putfield 9, 3) := by decide +kernel
theorem dX3_init_12 : decode cX3_init 12 = .ok (.aload_n 0, 1) := by decide +kernel
theorem dX3_init_13 : decode cX3_init 13 = .ok (.iconst 0, 1) := by decide +kernel
theorem dX3_init_14 : decode cX3_init 14 = .ok (.putfield 15, 3) := by decide +kernel
theorem dX3_init_17 : decode cX3_init 17 = .ok (.aload_n 0, 1) := by decide +kernel
theorem dX3_init_18 : decode cX3_init 18 = .ok (.aload_n 1, 1) := by decide +kernel
theorem dX3_init_19 : decode cX3_init 19 = .ok (.putfield 19, 3) := by decide +kernel
theorem dX3_init_22 : decode cX3_init 22 = .ok (.return_, 1) := by decide +kernel
theorem dX4_init_0 : decode cX4_init 0 = .ok (.aload_n 0, 1) := by decide +kernel
theorem dX4_init_1 : decode cX4_init 1 = .ok (.invokespecial 3, 3) := by decide +kernel
theorem dX4_init_4 : decode cX4_init 4 = .ok (.aload_n 0, 1) := by decide +kernel
theorem dX4_init_5 : decode cX4_init 5 = .ok (.iconst 0, 1) := by decide +kernel
theorem dX4_init_6 : decode cX4_init 6 = .ok (.putfield 9, 3) := by decide +kernel
theorem dX4_init_9 : decode cX4_init 9 = .ok (.aload_n 0, 1) := by decide +kernel
theorem dX4_init_10 : decode cX4_init 10 = .ok (.bipush 127, 2) := by decide +kernel
theorem dX4_init_12 : decode cX4_init 12 = .ok (.putfield 15, 3) := by decide +kernel
theorem dX4_init_15 : decode cX4_init 15 = .ok (.aload_n 0, 1) := by decide +kernel
theorem dX4_init_16 : decode cX4_init 16 = .ok (.iconst 0, 1) := by decide +kernel
theorem dX4_init_17 : decode cX4_init 17 = .ok (.putfield 18, 3) := by decide +kernel
theorem dX4_init_20 : decode cX4_init 20 = .ok (.aload_n 0, 1) := by decide +kernel
theorem dX4_init_21 : decode cX4_init 21 = .ok (.bipush 8, 2) := by decide +kernel
theorem dX4_init_23 : decode cX4_init 23 = .ok (.newarray .int, 2) := by decide +kernel
theorem dX4_init_25 : decode cX4_init 25 = .ok (.putfield 21, 3) := by decide +kernel
theorem dX4_init_28 : decode cX4_init 28 = .ok (.aload_n 0, 1) := by decide +kernel
theorem dX4_init_29 : decode cX4_init 29 = .ok (.sipush 136, 3) := by decide +kernel
theorem dX4_init_32 : decode cX4_init 32 = .ok (.newarray .int, 2) := by decide +kernel
theorem dX4_init_34 : decode cX4_init 34 = .ok (.putfield 25, 3) := by decide +kernel
theorem dX4_init_37 : decode cX4_init 37 = .ok (.aload_n 0, 1) := by decide +kernel
theorem dX4_init_38 : decode cX4_init 38 = .ok (.bipush 119, 2) := by decide +kernel
theorem dX4_init_40 : decode cX4_init 40 = .ok (.newarray .int, 2) := by decide +kernel
theorem dX4_init_42 : decode cX4_init 42 = .ok (.putfield 28, 3) := by decide +kernel
theorem dX4_init_45 : decode cX4_init 45 = .ok (.aload_n 0, 1) := by decide +kernel
theorem dX4_init_46 : decode cX4_init 46 = .ok (.sipush 136, 3) := by decide +kernel
theorem dX4_init_49 : decode cX4_init 49 = .ok (.newarray .int, 2) := by decide +kernel
theorem dX4_init_51 : decode cX4_init 51 = .ok (.putfield 31, 3) := by decide +kernel
theorem dX4_init_54 : decode cX4_init 54 = .ok (.aload_n 0, 1) := by decide +kernel
theorem dX4_init_55 : decode cX4_init 55 = .ok (.iconst 4, 1) := by decide +kernel
theorem dX4_init_56 : decode cX4_init 56 = .ok (.newarray .int, 2) := by decide +kernel
theorem dX4_init_58 : decode cX4_init 58 = .ok (.putfield 34, 3) := by decide +kernel
theorem dX4_init_61 : decode cX4_init 61 = .ok (.aload_n 0, 1) := by decide +kernel
theorem dX4_init_62 : decode cX4_init 62 = .ok (.aload_n 1, 1) := by decide +kernel
theorem dX4_init_63 : decode cX4_init 63 = .ok (.putfield 37, 3) := by decide +kernel
theorem dX4_init_66 : decode cX4_init 66 = .ok (.return_, 1) := by decide +kernel
theorem dX5_init_0 : decode cX5_init 0 = .ok (.aload_n 0, 1) := by decide +kernel
theorem dX5_init_1 : decode cX5_init 1 = .ok (.invokespecial 3, 3) := by decide +kernel
theorem dX5_init_4 : decode cX5_init 4 = .ok (.aload_n 0, 1) := by decide +kernel
theorem dX5_init_5 : decode cX5_init 5 = .ok (.bipush 60, 2) := by decide +kernel
theorem dX5_init_7 : decode cX5_init 7 = .ok (.newarray .long, 2) := by decide +kernel
theorem dX5_init_9 : decode cX5_init 9 = .ok (.putfield 9, 3) := by decide +kernel
theorem dX5_init_12 : decode cX5_init 12 = .ok (.aload_n 0, 1) := by decide +kernel
theorem dX5_init_13 : decode cX5_init 13 = .ok (.iconst 0, 1) := by decide +kernel
theorem dX5_init_14 : decode cX5_init 14 = .ok (.putfield 15, 3) := by decide +kernel
theorem dX5_init_17 : decode cX5_init 17 = .ok (.aload_n 0, 1) := by decide +kernel
theorem dX5_init_18 : decode cX5_init 18 = .ok (.iconst 0, 1) := by decide +kernel
theorem dX5_init_19 : decode cX5_init 19 = .ok (.putfield 19, 3) := by decide +kernel
theorem dX5_init_22 : decode cX5_init 22 = .ok (.return_, 1) := by decide +kernel
theorem dX6_init_0 : decode cX6_init 0 = .ok (.aload_n 0, 1) := by decide +kernel
theorem dX6_init_1 : decode cX6_init 1 = .ok (.invokespecial 3, 3) := by decide +kernel
theorem dX6_init_4 : decode cX6_init 4 = .ok (.aload_n 0, 1) := by decide +kernel
theorem dX6_init_5 : decode cX6_init 5 = .ok (.sipush 800, 3) := by decide +kernel
theorem dX6_init_8 : decode cX6_init 8 = .ok (.newarray .byte, 2) := by decide +kernel
theorem dX6_init_10 : decode cX6_init 10 = .ok (.putfield 9, 3) := by decide +kernel
theorem dX6_init_13 : decode cX6_init 13 = .ok (.aload_n 0, 1) := by decide +kernel
theorem dX6_init_14 : decode cX6_init 14 = .ok (.iconst 0, 1) := by decide +kernel
theorem dX6_init_15 : decode cX6_init 15 = .ok (.putfield 15, 3) := by decide +kernel
theorem dX6_init_18 : decode cX6_init 18 = .ok (.aload_n 0, 1) := by decide +kernel
theorem dX6_init_19 : decode cX6_init 19 = .ok (.iconst 0, 1) := by decide +kernel
theorem dX6_init_20 : decode cX6_init 20 = .ok (.putfield 19, 3) := by decide +kernel
theorem dX6_init_23 : decode cX6_init 23 = .ok (.aload_n 0, 1) := by decide +kernel
theorem dX6_init_24 : decode cX6_init 24 = .ok (.iconst (-1), 1) := by decide +kernel
theorem dX6_init_25 : decode cX6_init 25 = .ok (.putfield 22, 3) := by decide +kernel
theorem dX6_init_28 : decode cX6_init 28 = .ok (.aload_n 0, 1) := by decide +kernel
theorem dX6_init_29 : decode cX6_init 29 = .ok (.iconst 0, 1) := by decide +kernel
theorem dX6_init_30 : decode cX6_init 30 = .ok (.putfield 25, 3) := by decide +kernel
theorem dX6_init_33 : decode cX6_init 33 = .ok (.aload_n 0, 1) := by decide +kernel
theorem dX6_init_34 : decode cX6_init 34 = .ok (.iconst 0, 1) := by decide +kernel
theorem dX6_init_35 : decode cX6_init 35 = .ok (.putfield 28, 3) := by decide +kernel
theorem dX6_init_38 : decode cX6_init 38 = .ok (.aload_n 0, 1) := by decide +kernel
theorem dX6_init_39 : decode cX6_init 39 = .ok (.iconst 0, 1) := by decide +kernel
theorem dX6_init_40 : decode cX6_init 40 = .ok (.putfield 31, 3) := by decide +kernel
theorem dX6_init_43 : decode cX6_init 43 = .ok (.aload_n 0, 1) := by decide +kernel
theorem dX6_init_44 : decode cX6_init 44 = .ok (.iconst 0, 1) := by decide +kernel
theorem dX6_init_45 : decode cX6_init 45 = .ok (.putfield 34, 3) := by decide +kernel
theorem dX6_init_48 : decode cX6_init 48 = .ok (.return_, 1) := by decide +kernel
theorem dX7_init_0 : decode cX7_init 0 = .ok (.aload_n 0, 1) := by decide +kernel
theorem dX7_init_1 : decode cX7_init 1 = .ok (.invokespecial 3, 3) := by decide +kernel
theorem dX7_init_4 : decode cX7_init 4 = .ok (.aload_n 0, 1) := by decide +kernel
theorem dX7_init_5 : decode cX7_init 5 = .ok (.new 9, 3) := by decide +kernel
theorem dX7_init_8 : decode cX7_init 8 = .ok (.dup, 1) := by decide +kernel
theorem dX7_init_9 : decode cX7_init 9 = .ok (.invokespecial 11, 3) := by decide +kernel
theorem dX7_init_12 : decode cX7_init 12 = .ok (.putfield 12, 3) := by decide +kernel
theorem dX7_init_15 : decode cX7_init 15 = .ok (.aload_n 0, 1) := by decide +kernel
theorem dX7_init_16 : decode cX7_init 16 = .ok (.new 16, 3) := by decide +kernel
theorem dX7_init_19 : decode cX7_init 19 = .ok (.dup, 1) := by decide +kernel
theorem dX7_init_20 : decode cX7_init 20 = .ok (.invokespecial 18, 3) := by decide +kernel
theorem dX7_init_23 : decode cX7_init 23 = .ok (.putfield 19, 3) := by decide +kernel
theorem dX7_init_26 : decode cX7_init 26 = .ok (.aload_n 0, 1) := by decide +kernel
theorem dX7_init_27 : decode cX7_init 27 = .ok (.new 16, 3) := by decide +kernel
theorem dX7_init_30 : decode cX7_init 30 = .ok (.dup, 1) := by decide +kernel
theorem dX7_init_31 : decode cX7_init 31 = .ok (.invokespecial 18, 3) := by decide +kernel
theorem dX7_init_34 : decode cX7_init 34 = .ok (.putfield 23, 3) := by decide +kernel
theorem dX7_init_37 : decode cX7_init 37 = .ok (.aload_n 0, 1) := by decide +kernel
theorem dX7_init_38 : decode cX7_init 38 = .ok (.iconst 3, 1) := by decide +kernel
theorem dX7_init_39 : decode cX7_init 39 = .ok (.anewarray 16, 3) := by decide +kernel
theorem dX7_init_42 : decode cX7_init 42 = .ok (.putfield 26, 3) := by decide +kernel
theorem dX7_init_45 : decode cX7_init 45 = .ok (.aload_n 0, 1) := by decide +kernel
theorem dX7_init_46 : decode cX7_init 46 = .ok (.iconst 4, 1) := by decide +kernel
theorem dX7_init_47 : decode cX7_init 47 = .ok (.anewarray 30, 3) := by decide +kernel
theorem dX7_init_50 : decode cX7_init 50 = .ok (.putfield 32, 3) := by decide +kernel
theorem dX7_init_53 : decode cX7_init 53 = .ok (.aload_n 0, 1) := by decide +kernel
theorem dX7_init_54 : decode cX7_init 54 = .ok (.new 36, 3) := by decide +kernel
theorem dX7_init_57 : decode cX7_init 57 = .ok (.dup, 1) := by decide +kernel
theorem dX7_init_58 : decode cX7_init 58 = .ok (.aload_n 0, 1) := by decide +kernel
theorem dX7_init_59 : decode cX7_init 59 = .ok (.getfield 19, 3) := by decide +kernel
theorem dX7_init_62 : decode cX7_init 62 = .ok (.invokespecial 38, 3) := by decide +kernel
theorem dX7_init_65 : decode cX7_init 65 = .ok (.putfield 41, 3) := by decide +kernel
theorem dX7_init_68 : decode cX7_init 68 = .ok (.aload_n 0, 1) := by decide +kernel
theorem dX7_init_69 : decode cX7_init 69 = .ok (.new 36, 3) := by decide +kernel
theorem dX7_init_72 : decode cX7_init 72 = .ok (.dup, 1) := by decide +kernel
theorem dX7_init_73 : decode cX7_init 73 = .ok (.aload_n 0, 1) := by decide +kernel
theorem dX7_init_74 : decode cX7_init 74 = .ok (.getfield 19, 3) := by decide +kernel
theorem dX7_init_77 : decode cX7_init 77 = .ok (.invokespecial 38, 3) := by decide +kernel
theorem dX7_init_80 : decode cX7_init 80 = .ok (.putfield 45, 3) := by decide +kernel
theorem dX7_init_83 : decode cX7_init 83 = .ok (.aload_n 0, 1) := by decide +kernel
theorem dX7_init_84 : decode cX7_init 84 = .ok (.new 48, 3) := by decide +kernel
theorem dX7_init_87 : decode cX7_init 87 = .ok (.dup, 1) := by decide +kernel
theorem dX7_init_88 : decode cX7_init 88 = .ok (.aload_n 0, 1) := by decide +kernel
theorem dX7_init_89 : decode cX7_init 89 = .ok (.getfield 19, 3) := by decide +kernel
theorem dX7_init_92 : decode cX7_init 92 = .ok (.invokespecial 50, 3) := by decide +kernel
theorem dX7_init_95 : decode cX7_init 95 = .ok (.putfield 51, 3) := by decide +kernel
theorem dX7_init_98 : decode cX7_init 98 = .ok (.aload_n 0, 1) := by decide +kernel
theorem dX7_init_99 : decode cX7_init 99 = .ok (.new 55, 3) := by decide +kernel
theorem dX7_init_102 : decode cX7_init 102 = .ok (.dup, 1) := by decide +kernel
theorem dX7_init_103 : decode cX7_init 103 = .ok (.aload_n 0, 1) := by decide +kernel
theorem dX7_init_104 : decode cX7_init 104 = .ok (.getfield 19, 3) := by decide +kernel
theorem dX7_init_107 : decode cX7_init 107 = .ok (.invokespecial 57, 3) := by decide +kernel
theorem dX7_init_110 : decode cX7_init 110 = .ok (.putfield 58, 3) := by decide +kernel
theorem dX7_init_113 : decode cX7_init 113 = .ok (.aload_n 0, 1) := by decide +kernel
theorem dX7_init_114 : decode cX7_init 114 = .ok (.sipush 128, 3) := by decide +kernel
theorem dX7_init_117 : decode cX7_init 117 = .ok (.newarray .int, 2) := by decide +kernel
theorem dX7_init_119 : decode cX7_init 119 = .ok (.putfield 62, 3) := by decide +kernel
theorem dX7_init_122 : decode cX7_init 122 = .ok (.aload_n 0, 1) := by decide +kernel
theorem dX7_init_123 : decode cX7_init 123 = .ok (.iconst 0, 1) := by decide +kernel
theorem dX7_init_124 : decode cX7_init 124 = .ok (.putfield 66, 3) := by decide +kernel
theorem dX7_init_127 : decode cX7_init 127 = .ok (.aload_n 0, 1) := by decide +kernel
theorem dX7_init_128 : decode cX7_init 128 = .ok (.sipush 544, 3) := by decide +kernel
theorem dX7_init_131 : decode cX7_init 131 = .ok (.newarray .int, 2) := by decide +kernel
theorem dX7_init_133 : decode cX7_init 133 = .ok (.putfield 70, 3) := by decide +kernel
theorem dX7_init_136 : decode cX7_init 136 = .ok (.return_, 1) := by decide +kernel
theorem dX8_init_0 : decode cX8_init 0 = .ok (.aload_n 0, 1) := by decide +kernel
theorem dX8_init_1 : decode cX8_init 1 = .ok (.invokespecial 3, 3) := by decide +kernel
theorem dX8_init_4 : decode cX8_init 4 = .ok (.aload_n 0, 1) := by decide +kernel
theorem dX8_init_5 : decode cX8_init 5 = .ok (.bipush 102, 2) := by decide +kernel
theorem dX8_init_7 : decode cX8_init 7 = .ok (.newarray .int, 2) := by decide +kernel
theorem dX8_init_9 : decode cX8_init 9 = .ok (.putfield 9, 3) := by decide +kernel
theorem dX8_init_12 : decode cX8_init 12 = .ok (.aload_n 0, 1) := by decide +kernel
theorem dX8_init_13 : decode cX8_init 13 = .ok (.sipush 306, 3) := by decide +kernel
theorem dX8_init_16 : decode cX8_init 16 = .ok (.newarray .int, 2) := by decide +kernel
theorem dX8_init_18 : decode cX8_init 18 = .ok (.putfield 13, 3) := by decide +kernel
theorem dX8_init_21 : decode cX8_init 21 = .ok (.aload_n 0, 1) := by decide +kernel
theorem dX8_init_22 : decode cX8_init 22 = .ok (.iconst 3, 1) := by decide +kernel
theorem dX8_init_23 : decode cX8_init 23 = .ok (.newarray .boolean, 2) := by decide +kernel
theorem dX8_init_25 : decode cX8_init 25 = .ok (.putfield 16, 3) := by decide +kernel
theorem dX8_init_28 : decode cX8_init 28 = .ok (.aload_n 0, 1) := by decide +kernel
theorem dX8_init_29 : decode cX8_init 29 = .ok (.sipush 800, 3) := by decide +kernel
theorem dX8_init_32 : decode cX8_init 32 = .ok (.newarray .byte, 2) := by decide +kernel
theorem dX8_init_34 : decode cX8_init 34 = .ok (.putfield 20, 3) := by decide +kernel
theorem dX8_init_37 : decode cX8_init 37 = .ok (.aload_n 0, 1) := by decide +kernel
theorem dX8_init_38 : decode cX8_init 38 = .ok (.iconst 5, 1) := by decide +kernel
theorem dX8_init_39 : decode cX8_init 39 = .ok (.newarray .int, 2) := by decide +kernel
theorem dX8_init_41 : decode cX8_init 41 = .ok (.putfield 24, 3) := by decide +kernel
theorem dX8_init_44 : decode cX8_init 44 = .ok (.aload_n 0, 1) := by decide +kernel
theorem dX8_init_45 : decode cX8_init 45 = .ok (.iconst (-1), 1) := by decide +kernel
theorem dX8_init_46 : decode cX8_init 46 = .ok (.putfield 27, 3) := by decide +kernel
theorem dX8_init_49 : decode cX8_init 49 = .ok (.aload_n 0, 1) := by decide +kernel
theorem dX8_init_50 : decode cX8_init 50 = .ok (.bipush 102, 2) := by decide +kernel
theorem dX8_init_52 : decode cX8_init 52 = .ok (.newarray .int, 2) := by decide +kernel
theorem dX8_init_54 : decode cX8_init 54 = .ok (.putfield 31, 3) := by decide +kernel
theorem dX8_init_57 : decode cX8_init 57 = .ok (.aload_n 0, 1) := by decide +kernel
theorem dX8_init_58 : decode cX8_init 58 = .ok (.bipush 7, 2) := by decide +kernel
theorem dX8_init_60 : decode cX8_init 60 = .ok (.newarray .int, 2) := by decide +kernel
theorem dX8_init_62 : decode cX8_init 62 = .ok (.putfield 34, 3) := by decide +kernel
theorem dX8_init_65 : decode cX8_init 65 = .ok (.aload_n 0, 1) := by decide +kernel
theorem dX8_init_66 : decode cX8_init 66 = .ok (.bipush 8, 2) := by decide +kernel
theorem dX8_init_68 : decode cX8_init 68 = .ok (.newarray .int, 2) := by decide +kernel
theorem dX8_init_70 : decode cX8_init 70 = .ok (.putfield 37, 3) := by decide +kernel
theorem dX8_init_73 : decode cX8_init 73 = .ok (.aload_n 0, 1) := by decide +kernel
theorem dX8_init_74 : decode cX8_init 74 = .ok (.bipush 7, 2) := by decide +kernel
theorem dX8_init_76 : decode cX8_init 76 = .ok (.newarray .int, 2) := by decide +kernel
theorem dX8_init_78 : decode cX8_init 78 = .ok (.putfield 40, 3) := by decide +kernel
theorem dX8_init_81 : decode cX8_init 81 = .ok (.aload_n 0, 1) := by decide +kernel
theorem dX8_init_82 : decode cX8_init 82 = .ok (.bipush 8, 2) := by decide +kernel
theorem dX8_init_84 : decode cX8_init 84 = .ok (.newarray .int, 2) := by decide +kernel
theorem dX8_init_86 : decode cX8_init 86 = .ok (.putfield 43, 3) := by decide +kernel
theorem dX8_init_89 : decode cX8_init 89 = .ok (.aload_n 0, 1) := by decide +kernel
theorem dX8_init_90 : decode cX8_init 90 = .ok (.sipush 136, 3) := by decide +kernel
theorem dX8_init_93 : decode cX8_init 93 = .ok (.newarray .int, 2) := by decide +kernel
theorem dX8_init_95 : decode cX8_init 95 = .ok (.putfield 46, 3) := by decide +kernel
theorem dX8_init_98 : decode cX8_init 98 = .ok (.aload_n 0, 1) := by decide +kernel
theorem dX8_init_99 : decode cX8_init 99 = .ok (.bipush 119, 2) := by decide +kernel
theorem dX8_init_101 : decode cX8_init 101 = .ok (.newarray .int, 2) := by decide +kernel
theorem dX8_init_103 : decode cX8_init 103 = .ok (.putfield 49, 3) := by decide +kernel
theorem dX8_init_106 : decode cX8_init 106 = .ok (.aload_n 0, 1) := by decide +kernel
theorem dX8_init_107 : decode cX8_init 107 = .ok (.bipush 16, 2) := by decide +kernel
theorem dX8_init_109 : decode cX8_init 109 = .ok (.newarray .int, 2) := by decide +kernel
theorem dX8_init_111 : decode cX8_init 111 = .ok (.putfield 52, 3) := by decide +kernel
theorem dX8_init_114 : decode cX8_init 114 = .ok (.aload_n 0, 1) := by decide +kernel
theorem dX8_init_115 : decode cX8_init 115 = .ok (.bipush 28, 2) := by decide +kernel
theorem dX8_init_117 : decode cX8_init 117 = .ok (.newarray .int, 2) := by decide +kernel
theorem dX8_init_119 : decode cX8_init 119 = .ok (.putfield 55, 3) := by decide +kernel
theorem dX8_init_122 : decode cX8_init 122 = .ok (.aload_n 0, 1) := by decide +kernel
theorem dX8_init_123 : decode cX8_init 123 = .ok (.bipush 8, 2) := by decide +kernel
theorem dX8_init_125 : decode cX8_init 125 = .ok (.newarray .int, 2) := by decide +kernel
theorem dX8_init_127 : decode cX8_init 127 = .ok (.putfield 58, 3) := by decide +kernel
theorem dX8_init_130 : decode cX8_init 130 = .ok (.aload_n 0, 1) := by decide +kernel
theorem dX8_init_131 : decode cX8_init 131 = .ok (.iconst 4, 1) := by decide +kernel
theorem dX8_init_132 : decode cX8_init 132 = .ok (.newarray .int, 2) := by decide +kernel
theorem dX8_init_134 : decode cX8_init 134 = .ok (.putfield 61, 3) := by decide +kernel
theorem dX8_init_137 : decode cX8_init 137 = .ok (.aload_n 0, 1) := by decide +kernel
theorem dX8_init_138 : decode cX8_init 138 = .ok (.iconst 4, 1) := by decide +kernel
theorem dX8_init_139 : decode cX8_init 139 = .ok (.newarray .int, 2) := by decide +kernel
theorem dX8_init_141 : decode cX8_init 141 = .ok (.putfield 64, 3) := by decide +kernel
theorem dX8_init_144 : decode cX8_init 144 = .ok (.aload_n 0, 1) := by decide +kernel
theorem dX8_init_145 : decode cX8_init 145 = .ok (.bipush 7, 2) := by decide +kernel
theorem dX8_init_147 : decode cX8_init 147 = .ok (.newarray .int, 2) := by decide +kernel
theorem dX8_init_149 : decode cX8_init 149 = .ok (.putfield 67, 3) := by decide +kernel
theorem dX8_init_152 : decode cX8_init 152 = .ok (.aload_n 0, 1) := by decide +kernel
theorem dX8_init_153 : decode cX8_init 153 = .ok (.sipush 544, 3) := by decide +kernel
theorem dX8_init_156 : decode cX8_init 156 = .ok (.newarray .int, 2) := by decide +kernel
theorem dX8_init_158 : decode cX8_init 158 = .ok (.putfield 70, 3) := by decide +kernel
theorem dX8_init_161 : decode cX8_init 161 = .ok (.aload_n 0, 1) := by decide +kernel
theorem dX8_init_162 : decode cX8_init 162 = .ok (.sipush 128, 3) := by decide +kernel
theorem dX8_init_165 : decode cX8_init 165 = .ok (.newarray .int, 2) := by decide +kernel
theorem dX8_init_167 : decode cX8_init 167 = .ok (.putfield 73, 3) := by decide +kernel
theorem dX8_init_170 : decode cX8_init 170 = .ok (.aload_n 0, 1) := by decide +kernel
theorem dX8_init_171 : decode cX8_init 171 = .ok (.iconst 4, 1) := by decide +kernel
theorem dX8_init_172 : decode cX8_init 172 = .ok (.newarray .int, 2) := by decide +kernel
theorem dX8_init_174 : decode cX8_init 174 = .ok (.dup, 1) := by decide +kernel
theorem dX8_init_175 : decode cX8_init 175 = .ok (.iconst 0, 1) := by decide +kernel
theorem dX8_init_176 : decode cX8_init 176 = .ok (.iconst (-1), 1) := by decide +kernel
theorem dX8_init_177 : decode cX8_init 177 = .ok (.iastore, 1) := by decide +kernel
theorem dX8_init_178 : decode cX8_init 178 = .ok (.dup, 1) := by decide +kernel
theorem dX8_init_179 : decode cX8_init 179 = .ok (.iconst 1, 1) := by decide +kernel
theorem dX8_init_180 : decode cX8_init 180 = .ok (.iconst (-1), 1) := by decide +kernel
theorem dX8_init_181 : decode cX8_init 181 = .ok (.iastore, 1) := by decide +kernel
theorem dX8_init_182 : decode cX8_init 182 = .ok (.dup, 1) := by decide +kernel
theorem dX8_init_183 : decode cX8_init 183 = .ok (.iconst 2, 1) := by decide +kernel
theorem dX8_init_184 : decode cX8_init 184 = .ok (.iconst (-1), 1) := by decide +kernel
theorem dX8_init_185 : decode cX8_init 185 = .ok (.iastore, 1) := by decide +kernel
theorem dX8_init_186 : decode cX8_init 186 = .ok (.dup, 1) := by decide +kernel
theorem dX8_init_187 : decode cX8_init 187 = .ok (.iconst 3, 1) := by decide +kernel
theorem dX8_init_188 : decode cX8_init 188 = .ok (.iconst (-1), 1) := by decide +kernel
theorem dX8_init_189 : decode cX8_init 189 = .ok (.iastore, 1) := by decide +kernel
theorem dX8_init_190 : decode cX8_init 190 = .ok (.putfield 76, 3) := by decide +kernel
theorem dX8_init_193 : decode cX8_init 193 = .ok (.aload_n 0, 1) := by decide +kernel
theorem dX8_init_194 : decode cX8_init 194 = .ok (.iconst 4, 1) := by decide +kernel
theorem dX8_init_195 : decode cX8_init 195 = .ok (.newarray .int, 2) := by decide +kernel
theorem dX8_init_197 : decode cX8_init 197 = .ok (.putfield 79, 3) := by decide +kernel
theorem dX8_init_200 : decode cX8_init 200 = .ok (.aload_n 0, 1) := by decide +kernel
theorem dX8_init_201 : decode cX8_init 201 = .ok (.sipush 240, 3) := by decide +kernel
theorem dX8_init_204 : decode cX8_init 204 = .ok (.newarray .long, 2) := by decide +kernel
theorem dX8_init_206 : decode cX8_init 206 = .ok (.putfield 82, 3) := by decide +kernel
theorem dX8_init_209 : decode cX8_init 209 = .ok (.aload_n 0, 1) := by decide +kernel
theorem dX8_init_210 : decode cX8_init 210 = .ok (.bipush 60, 2) := by decide +kernel
theorem dX8_init_212 : decode cX8_init 212 = .ok (.newarray .long, 2) := by decide +kernel
theorem dX8_init_214 : decode cX8_init 214 = .ok (.putfield 86, 3) := by decide +kernel
theorem dX8_init_217 : decode cX8_init 217 = .ok (.return_, 1) := by decide +kernel
def blk (m : Nat) : Nat := if m < 50 then 0 else if m < 80 then 1 + (m - 50) / 10 else if m < 88 then 4 + (m - 80) / 2 else 0
def AB (act : Nat → Bool) : Prop := ∀ k, act k = true → 50 ≤ k ∧ k < 88
theorem WI.ofFW {L : List Nat} {M : Nat → va_E} {a : Nat → Nat} {act : Nat → Bool} {E : Nat → va_E} {ls : List Nat} (F : FW L M (ls.map fun k => (a k, E k))) (h : ∀ k, (baseact k || act k) = true → k ∈ ls) : WI L M a act E := by
  have key : ∀ k, k ∈ ls → ∃ i : Nat, ls[i]? = some k ∧ (ls.map fun k => (a k, E k))[i]? = some (a k, E k) := by
    intro k hk
    obtain ⟨i, hi⟩ := List.getElem?_of_mem hk
    exact ⟨i, hi, by rw [List.getElem?_map, hi]; rfl⟩
  refine ⟨fun k hk => ?_, fun k k' hk hk' e => ?_⟩
  · obtain ⟨i, -, hi⟩ := key k (h k hk)
    exact F.1 i _ hi
  · obtain ⟨i, hi, fi⟩ := key k (h k hk)
    obtain ⟨j, hj, fj⟩ := key k' (h k' hk')
    have e2 := F.2 i j _ _ fi fj e
    rw [e2, hj] at hi
    exact (Option.some.inj hi).symm
theorem WI.toFW {L : List Nat} {M : Nat → va_E} {a : Nat → Nat} {act : Nat → Bool} {E : Nat → va_E} {ls : List Nat} (F : WI L M a act E) (hs : ∀ k ∈ ls, (baseact k || act k) = true) (hn : ls.Nodup) : FW L M (ls.map fun k => (a k, E k)) := by
  have key : ∀ (i : Nat) (q : Nat × va_E), (ls.map fun k => (a k, E k))[i]? = some q → ∃ k, ls[i]? = some k ∧ q = (a k, E k) := by
    intro i q h
    rw [List.getElem?_map] at h
    cases hk : ls[i]? with
    | none => rw [hk] at h; cases h
    | some k => rw [hk] at h; exact ⟨k, rfl, (Option.some.inj h).symm⟩
  refine ⟨fun i q h => ?_, fun i j p q hi hj e => ?_⟩
  · obtain ⟨k, hk, rfl⟩ := key i q h
    exact F.1 k (hs k (List.mem_of_getElem? hk))
  · obtain ⟨k, hk, rfl⟩ := key i p hi
    obtain ⟨k', hk', rfl⟩ := key j q hj
    have e2 := F.2 k k' (hs k (List.mem_of_getElem? hk)) (hs k' (List.mem_of_getElem? hk')) e
    subst e2
    exact (List.getElem?_inj (List.getElem?_eq_some_iff.mp hk).1 hn).mp (hk.trans hk'.symm)
def ksA (act : Nat → Bool) : List Nat := (List.range 200).filter (fun k => baseact k || act k)
theorem base_lt {k : Nat} (h : baseact k = true) : k < 200 := by
  unfold baseact at h
  rcases (Bool.or_eq_true _ _).mp h with h | h
  · have := of_decide_eq_true h; omega
  · have hm := List.contains_iff_mem.mp h
    have hall : ∀ x ∈ ([100, 101, 102, 103, 104, 106, 114, 115, 116, 120, 121, 122, 123, 124, 125, 126, 127, 128, 129, 131, 133, 137, 138, 139, 140] : List Nat), x < 200 := by decide
    exact hall k hm
theorem ksA_mem {act : Nat → Bool} (hb : AB act) {k : Nat} (h : (baseact k || act k) = true) : k ∈ ksA act := by
  refine List.mem_filter.mpr ⟨List.mem_range.mpr ?_, h⟩
  rcases (Bool.or_eq_true _ _).mp h with h | h
  · exact base_lt h
  · have := hb k h; omega
theorem ksA_act {act : Nat → Bool} : ∀ k ∈ ksA act, (baseact k || act k) = true := fun k h => (List.mem_filter.mp h).2
theorem ksA_nd {act : Nat → Bool} : (ksA act).Nodup := List.Pairwise.filter _ List.nodup_range
def CLs : List Nat := [0, 1, 2, 3, 4, 5, 6, 7, 8, 9, 10, 11, 12, 13, 14, 15, 16, 17, 18, 19, 20, 21, 22, 23, 24, 25, 26, 27, 28, 29, 30, 31, 32, 33, 34, 35, 36, 37, 38, 39, 40, 41, 42, 50, 51, 52, 53, 54, 55, 56, 57, 58, 59, 60, 61, 62, 63, 64, 65, 66, 67, 68, 69, 70, 71, 72, 73, 74, 75, 76, 77, 78, 79, 80, 81, 82, 83, 84, 85, 86, 87, 100, 101, 102, 103, 104, 106, 114, 115, 116, 120, 121, 122, 123, 124, 125, 126, 127, 128, 129, 131, 133, 137, 138, 139, 140]
theorem CLs_in0 : ∀ k, k < 200 → (baseact k || (decide (50 ≤ k) && decide (k < 88))) = true → k ∈ CLs := by decide +kernel
theorem CLs_in {act : Nat → Bool} (hb : AB act) {k : Nat} (h : (baseact k || act k) = true) : k ∈ CLs := by
  rcases (Bool.or_eq_true _ _).mp h with z | z
  · exact CLs_in0 k (base_lt z) (by rw [z]; rfl)
  · have y := hb k z
    exact CLs_in0 k (by omega) (by rw [decide_eq_true y.1, decide_eq_true y.2]; exact Bool.or_true _)
set_option maxRecDepth 100000 in
theorem sh_cg {cy : Nat → ClassId} {a a2 : Nat → Nat} : ∀ k ∈ CLs, (∀ m, blk m = blk k → a2 m = a m) → ∀ (c : Nat → Int32) (d : Nat → Int64) (r : Nat → Option Nat), sh cy a2 k c d r = sh cy a k c d r := List.forall_mem_cons.mpr ⟨fun h c d r => by show (.inr (7, [.ref (a2 1), .ref (a2 3), .ref (a2 13), .ref (a2 23), .ref (a2 24), .ref (a2 25), .ref (a2 31), .ref (a2 37), .ref (a2 39), .ref (a2 41), .int (c 10), .ref (a2 42)]) : va_E) = .inr (7, [.ref (a 1), .ref (a 3), .ref (a 13), .ref (a 23), .ref (a 24), .ref (a 25), .ref (a 31), .ref (a 37), .ref (a 39), .ref (a 41), .int (c 10), .ref (a 42)]); rw [h 1 rfl, h 3 rfl, h 13 rfl, h 23 rfl, h 24 rfl, h 25 rfl, h 31 rfl, h 37 rfl, h 39 rfl, h 41 rfl, h 42 rfl], List.forall_mem_cons.mpr ⟨fun h c d r => by show (.inr (6, [.ref (a2 2), .int (c 1), .int (c 2), .int (c 3), .int (c 4), .int (c 5), .int (c 6), .int (c 7)]) : va_E) = .inr (6, [.ref (a 2), .int (c 1), .int (c 2), .int (c 3), .int (c 4), .int (c 5), .int (c 6), .int (c 7)]); rw [h 2 rfl], List.forall_mem_cons.mpr ⟨fun h c d r => rfl, List.forall_mem_cons.mpr ⟨fun h c d r => by show (.inr (2, [.int (c 0), .int (c 1), .int (c 2), .int (c 3), .int (c 4), .int (c 5), .int (c 6), .int (c 7), .int (c 8), .ref (a2 4), .ref (a2 5), .ref (a2 6), .ref (a2 7), .ref (a2 8), .ref (a2 9), .ref (a2 10)]) : va_E) = .inr (2, [.int (c 0), .int (c 1), .int (c 2), .int (c 3), .int (c 4), .int (c 5), .int (c 6), .int (c 7), .int (c 8), .ref (a 4), .ref (a 5), .ref (a 6), .ref (a 7), .ref (a 8), .ref (a 9), .ref (a 10)]); rw [h 4 rfl, h 5 rfl, h 6 rfl, h 7 rfl, h 8 rfl, h 9 rfl, h 10 rfl], List.forall_mem_cons.mpr ⟨fun h c d r => rfl, List.forall_mem_cons.mpr ⟨fun h c d r => rfl, List.forall_mem_cons.mpr ⟨fun h c d r => rfl, List.forall_mem_cons.mpr ⟨fun h c d r => rfl, List.forall_mem_cons.mpr ⟨fun h c d r => rfl, List.forall_mem_cons.mpr ⟨fun h c d r => rfl, List.forall_mem_cons.mpr ⟨fun h c d r => by show (.inr (0, [.int (c 0), .ref (a2 11), .ref (a2 12)]) : va_E) = .inr (0, [.int (c 0), .ref (a 11), .ref (a 12)]); rw [h 11 rfl, h 12 rfl], List.forall_mem_cons.mpr ⟨fun h c d r => rfl, List.forall_mem_cons.mpr ⟨fun h c d r => rfl, List.forall_mem_cons.mpr ⟨fun h c d r => by show (.inr (2, [.int (c 0), .int (c 1), .int (c 2), .int (c 3), .int (c 4), .int (c 5), .int (c 6), .int (c 7), .int (c 8), .ref (a2 14), .ref (a2 15), .ref (a2 16), .ref (a2 17), .ref (a2 18), .ref (a2 19), .ref (a2 20)]) : va_E) = .inr (2, [.int (c 0), .int (c 1), .int (c 2), .int (c 3), .int (c 4), .int (c 5), .int (c 6), .int (c 7), .int (c 8), .ref (a 14), .ref (a 15), .ref (a 16), .ref (a 17), .ref (a 18), .ref (a 19), .ref (a 20)]); rw [h 14 rfl, h 15 rfl, h 16 rfl, h 17 rfl, h 18 rfl, h 19 rfl, h 20 rfl], List.forall_mem_cons.mpr ⟨fun h c d r => rfl, List.forall_mem_cons.mpr ⟨fun h c d r => rfl, List.forall_mem_cons.mpr ⟨fun h c d r => rfl, List.forall_mem_cons.mpr ⟨fun h c d r => rfl, List.forall_mem_cons.mpr ⟨fun h c d r => rfl, List.forall_mem_cons.mpr ⟨fun h c d r => rfl, List.forall_mem_cons.mpr ⟨fun h c d r => by show (.inr (0, [.int (c 0), .ref (a2 21), .ref (a2 22)]) : va_E) = .inr (0, [.int (c 0), .ref (a 21), .ref (a 22)]); rw [h 21 rfl, h 22 rfl], List.forall_mem_cons.mpr ⟨fun h c d r => rfl, List.forall_mem_cons.mpr ⟨fun h c d r => rfl, List.forall_mem_cons.mpr ⟨fun h c d r => rfl, List.forall_mem_cons.mpr ⟨fun h c d r => rfl, List.forall_mem_cons.mpr ⟨fun h c d r => by show (.inr (4, [.ref (a2 3), .int (c 1), .int (c 2), .int (c 3), .ref (a2 26), .ref (a2 27), .ref (a2 28), .ref (a2 29), .ref (a2 30)]) : va_E) = .inr (4, [.ref (a 3), .int (c 1), .int (c 2), .int (c 3), .ref (a 26), .ref (a 27), .ref (a 28), .ref (a 29), .ref (a 30)]); rw [h 3 rfl, h 26 rfl, h 27 rfl, h 28 rfl, h 29 rfl, h 30 rfl], List.forall_mem_cons.mpr ⟨fun h c d r => rfl, List.forall_mem_cons.mpr ⟨fun h c d r => rfl, List.forall_mem_cons.mpr ⟨fun h c d r => rfl, List.forall_mem_cons.mpr ⟨fun h c d r => rfl, List.forall_mem_cons.mpr ⟨fun h c d r => rfl, List.forall_mem_cons.mpr ⟨fun h c d r => by show (.inr (4, [.ref (a2 3), .int (c 1), .int (c 2), .int (c 3), .ref (a2 32), .ref (a2 33), .ref (a2 34), .ref (a2 35), .ref (a2 36)]) : va_E) = .inr (4, [.ref (a 3), .int (c 1), .int (c 2), .int (c 3), .ref (a 32), .ref (a 33), .ref (a 34), .ref (a 35), .ref (a 36)]); rw [h 3 rfl, h 32 rfl, h 33 rfl, h 34 rfl, h 35 rfl, h 36 rfl], List.forall_mem_cons.mpr ⟨fun h c d r => rfl, List.forall_mem_cons.mpr ⟨fun h c d r => rfl, List.forall_mem_cons.mpr ⟨fun h c d r => rfl, List.forall_mem_cons.mpr ⟨fun h c d r => rfl, List.forall_mem_cons.mpr ⟨fun h c d r => rfl, List.forall_mem_cons.mpr ⟨fun h c d r => by show (.inr (3, [.ref (a2 3), .ref (a2 38), .int (c 2)]) : va_E) = .inr (3, [.ref (a 3), .ref (a 38), .int (c 2)]); rw [h 3 rfl, h 38 rfl], List.forall_mem_cons.mpr ⟨fun h c d r => rfl, List.forall_mem_cons.mpr ⟨fun h c d r => by show (.inr (1, [.ref (a2 3), .int (c 1), .ref (a2 40), .long (d 3)]) : va_E) = .inr (1, [.ref (a 3), .int (c 1), .ref (a 40), .long (d 3)]); rw [h 3 rfl, h 40 rfl], List.forall_mem_cons.mpr ⟨fun h c d r => rfl, List.forall_mem_cons.mpr ⟨fun h c d r => rfl, List.forall_mem_cons.mpr ⟨fun h c d r => rfl, List.forall_mem_cons.mpr ⟨fun h c d r => by show (.inr (2, [.int (c 0), .int (c 1), .int (c 2), .int (c 3), .int (c 4), .int (c 5), .int (c 6), .int (c 7), .int (c 8), .ref (a2 51), .ref (a2 52), .ref (a2 53), .ref (a2 54), .ref (a2 55), .ref (a2 56), .ref (a2 57)]) : va_E) = .inr (2, [.int (c 0), .int (c 1), .int (c 2), .int (c 3), .int (c 4), .int (c 5), .int (c 6), .int (c 7), .int (c 8), .ref (a 51), .ref (a 52), .ref (a 53), .ref (a 54), .ref (a 55), .ref (a 56), .ref (a 57)]); rw [h 51 rfl, h 52 rfl, h 53 rfl, h 54 rfl, h 55 rfl, h 56 rfl, h 57 rfl], List.forall_mem_cons.mpr ⟨fun h c d r => rfl, List.forall_mem_cons.mpr ⟨fun h c d r => rfl, List.forall_mem_cons.mpr ⟨fun h c d r => rfl, List.forall_mem_cons.mpr ⟨fun h c d r => rfl, List.forall_mem_cons.mpr ⟨fun h c d r => rfl, List.forall_mem_cons.mpr ⟨fun h c d r => rfl, List.forall_mem_cons.mpr ⟨fun h c d r => by show (.inr (0, [.int (c 0), .ref (a2 58), .ref (a2 59)]) : va_E) = .inr (0, [.int (c 0), .ref (a 58), .ref (a 59)]); rw [h 58 rfl, h 59 rfl], List.forall_mem_cons.mpr ⟨fun h c d r => rfl, List.forall_mem_cons.mpr ⟨fun h c d r => rfl, List.forall_mem_cons.mpr ⟨fun h c d r => by show (.inr (2, [.int (c 0), .int (c 1), .int (c 2), .int (c 3), .int (c 4), .int (c 5), .int (c 6), .int (c 7), .int (c 8), .ref (a2 61), .ref (a2 62), .ref (a2 63), .ref (a2 64), .ref (a2 65), .ref (a2 66), .ref (a2 67)]) : va_E) = .inr (2, [.int (c 0), .int (c 1), .int (c 2), .int (c 3), .int (c 4), .int (c 5), .int (c 6), .int (c 7), .int (c 8), .ref (a 61), .ref (a 62), .ref (a 63), .ref (a 64), .ref (a 65), .ref (a 66), .ref (a 67)]); rw [h 61 rfl, h 62 rfl, h 63 rfl, h 64 rfl, h 65 rfl, h 66 rfl, h 67 rfl], List.forall_mem_cons.mpr ⟨fun h c d r => rfl, List.forall_mem_cons.mpr ⟨fun h c d r => rfl, List.forall_mem_cons.mpr ⟨fun h c d r => rfl, List.forall_mem_cons.mpr ⟨fun h c d r => rfl, List.forall_mem_cons.mpr ⟨fun h c d r => rfl, List.forall_mem_cons.mpr ⟨fun h c d r => rfl, List.forall_mem_cons.mpr ⟨fun h c d r => by show (.inr (0, [.int (c 0), .ref (a2 68), .ref (a2 69)]) : va_E) = .inr (0, [.int (c 0), .ref (a 68), .ref (a 69)]); rw [h 68 rfl, h 69 rfl], List.forall_mem_cons.mpr ⟨fun h c d r => rfl, List.forall_mem_cons.mpr ⟨fun h c d r => rfl, List.forall_mem_cons.mpr ⟨fun h c d r => by show (.inr (2, [.int (c 0), .int (c 1), .int (c 2), .int (c 3), .int (c 4), .int (c 5), .int (c 6), .int (c 7), .int (c 8), .ref (a2 71), .ref (a2 72), .ref (a2 73), .ref (a2 74), .ref (a2 75), .ref (a2 76), .ref (a2 77)]) : va_E) = .inr (2, [.int (c 0), .int (c 1), .int (c 2), .int (c 3), .int (c 4), .int (c 5), .int (c 6), .int (c 7), .int (c 8), .ref (a 71), .ref (a 72), .ref (a 73), .ref (a 74), .ref (a 75), .ref (a 76), .ref (a 77)]); rw [h 71 rfl, h 72 rfl, h 73 rfl, h 74 rfl, h 75 rfl, h 76 rfl, h 77 rfl], List.forall_mem_cons.mpr ⟨fun h c d r => rfl, List.forall_mem_cons.mpr ⟨fun h c d r => rfl, List.forall_mem_cons.mpr ⟨fun h c d r => rfl, List.forall_mem_cons.mpr ⟨fun h c d r => rfl, List.forall_mem_cons.mpr ⟨fun h c d r => rfl, List.forall_mem_cons.mpr ⟨fun h c d r => rfl, List.forall_mem_cons.mpr ⟨fun h c d r => by show (.inr (0, [.int (c 0), .ref (a2 78), .ref (a2 79)]) : va_E) = .inr (0, [.int (c 0), .ref (a 78), .ref (a 79)]); rw [h 78 rfl, h 79 rfl], List.forall_mem_cons.mpr ⟨fun h c d r => rfl, List.forall_mem_cons.mpr ⟨fun h c d r => rfl, List.forall_mem_cons.mpr ⟨fun h c d r => by show (.inr (5, [.ref (a2 81), .int (c 1), .int (c 2)]) : va_E) = .inr (5, [.ref (a 81), .int (c 1), .int (c 2)]); rw [h 81 rfl], List.forall_mem_cons.mpr ⟨fun h c d r => rfl, List.forall_mem_cons.mpr ⟨fun h c d r => by show (.inr (5, [.ref (a2 83), .int (c 1), .int (c 2)]) : va_E) = .inr (5, [.ref (a 83), .int (c 1), .int (c 2)]); rw [h 83 rfl], List.forall_mem_cons.mpr ⟨fun h c d r => rfl, List.forall_mem_cons.mpr ⟨fun h c d r => by show (.inr (5, [.ref (a2 85), .int (c 1), .int (c 2)]) : va_E) = .inr (5, [.ref (a 85), .int (c 1), .int (c 2)]); rw [h 85 rfl], List.forall_mem_cons.mpr ⟨fun h c d r => rfl, List.forall_mem_cons.mpr ⟨fun h c d r => by show (.inr (5, [.ref (a2 87), .int (c 1), .int (c 2)]) : va_E) = .inr (5, [.ref (a 87), .int (c 1), .int (c 2)]); rw [h 87 rfl], List.forall_mem_cons.mpr ⟨fun h c d r => rfl, List.forall_mem_cons.mpr ⟨fun h c d r => by show (.inr (8, .int (c 0) :: .ref (a2 101) :: .ref (a2 102) :: .ref (a2 103) :: .ref (a2 104) :: .int (c 5) :: .ref (a2 106) :: .int (c 7) :: .int (c 8) :: .int (c 9) :: .int (c 10) :: .int (c 11) :: .int (c 12) :: .int (c 13) :: .ref (a2 114) :: .ref (a2 115) :: .ref (a2 116) :: .int (c 17) :: .int (c 18) :: .int (c 19) :: .ref (a2 120) :: .ref (a2 121) :: .ref (a2 122) :: .ref (a2 123) :: .ref (a2 124) :: .ref (a2 125) :: .ref (a2 126) :: .ref (a2 127) :: .ref (a2 128) :: .ref (a2 129) :: .int (c 30) :: .ref (a2 131) :: .int (c 32) :: .ref (a2 133) :: .long (d 34) :: .long (d 35) :: .long (d 36) :: .ref (a2 137) :: .ref (a2 138) :: .ref (a2 139) :: .ref (a2 140) :: []) : va_E) = .inr (8, .int (c 0) :: .ref (a 101) :: .ref (a 102) :: .ref (a 103) :: .ref (a 104) :: .int (c 5) :: .ref (a 106) :: .int (c 7) :: .int (c 8) :: .int (c 9) :: .int (c 10) :: .int (c 11) :: .int (c 12) :: .int (c 13) :: .ref (a 114) :: .ref (a 115) :: .ref (a 116) :: .int (c 17) :: .int (c 18) :: .int (c 19) :: .ref (a 120) :: .ref (a 121) :: .ref (a 122) :: .ref (a 123) :: .ref (a 124) :: .ref (a 125) :: .ref (a 126) :: .ref (a 127) :: .ref (a 128) :: .ref (a 129) :: .int (c 30) :: .ref (a 131) :: .int (c 32) :: .ref (a 133) :: .long (d 34) :: .long (d 35) :: .long (d 36) :: .ref (a 137) :: .ref (a 138) :: .ref (a 139) :: .ref (a 140) :: []); rw [h 101 rfl, h 102 rfl, h 103 rfl, h 104 rfl, h 106 rfl, h 114 rfl, h 115 rfl, h 116 rfl, h 120 rfl, h 121 rfl, h 122 rfl, h 123 rfl, h 124 rfl, h 125 rfl, h 126 rfl, h 127 rfl, h 128 rfl, h 129 rfl, h 131 rfl, h 133 rfl, h 137 rfl, h 138 rfl, h 139 rfl, h 140 rfl], List.forall_mem_cons.mpr ⟨fun h c d r => rfl, List.forall_mem_cons.mpr ⟨fun h c d r => rfl, List.forall_mem_cons.mpr ⟨fun h c d r => rfl, List.forall_mem_cons.mpr ⟨fun h c d r => rfl, List.forall_mem_cons.mpr ⟨fun h c d r => rfl, List.forall_mem_cons.mpr ⟨fun h c d r => rfl, List.forall_mem_cons.mpr ⟨fun h c d r => rfl, List.forall_mem_cons.mpr ⟨fun h c d r => rfl, List.forall_mem_cons.mpr ⟨fun h c d r => rfl, List.forall_mem_cons.mpr ⟨fun h c d r => rfl, List.forall_mem_cons.mpr ⟨fun h c d r => rfl, List.forall_mem_cons.mpr ⟨fun h c d r => rfl, List.forall_mem_cons.mpr ⟨fun h c d r => rfl, List.forall_mem_cons.mpr ⟨fun h c d r => rfl, List.forall_mem_cons.mpr ⟨fun h c d r => rfl, List.forall_mem_cons.mpr ⟨fun h c d r => rfl, List.forall_mem_cons.mpr ⟨fun h c d r => rfl, List.forall_mem_cons.mpr ⟨fun h c d r => rfl, List.forall_mem_cons.mpr ⟨fun h c d r => rfl, List.forall_mem_cons.mpr ⟨fun h c d r => rfl, List.forall_mem_cons.mpr ⟨fun h c d r => rfl, List.forall_mem_cons.mpr ⟨fun h c d r => rfl, List.forall_mem_cons.mpr ⟨fun h c d r => rfl, List.forall_mem_cons.mpr ⟨fun h c d r => rfl, fun _ h => absurd h List.not_mem_nil⟩⟩⟩⟩⟩⟩⟩⟩⟩⟩⟩⟩⟩⟩⟩⟩⟩⟩⟩⟩⟩⟩⟩⟩⟩⟩⟩⟩⟩⟩⟩⟩⟩⟩⟩⟩⟩⟩⟩⟩⟩⟩⟩⟩⟩⟩⟩⟩⟩⟩⟩⟩⟩⟩⟩⟩⟩⟩⟩⟩⟩⟩⟩⟩⟩⟩⟩⟩⟩⟩⟩⟩⟩⟩⟩⟩⟩⟩⟩⟩⟩⟩⟩⟩⟩⟩⟩⟩⟩⟩⟩⟩⟩⟩⟩⟩⟩⟩⟩⟩⟩⟩⟩⟩⟩⟩
theorem ent_neR {cy : Nat → ClassId} {a : Nat → Nat} {C : Nat → Nat → Int32} {D : Nat → Nat → Int64} {R : Nat → Nat → Option Nat} {k : Nat} {g : Nat → Option Nat} : ∀ k', k' ≠ k → ent cy a C D (va_up R k g) k' = ent cy a C D R k' := fun k' h => by unfold ent; rw [va_up_ne _ _ h]
theorem okv_0 (k j : Nat) : okv k j 0 := by
  have r : ∀ lo hi : Int, lo ≤ 0 → 0 ≤ hi → rg lo hi (0 : Int32) := fun lo hi h h2 => by have k : (0 : Int32).toInt = 0 := (by decide); unfold rg; omega
  have g0 : gl (0 : Int32) := Or.inl (by decide)
  have p0 : okp (0 : Int32) := Or.inr g0
  unfold okv
  split <;> first | exact trivial | exact g0 | exact p0 | exact okw_0 _ | exact r _ _ (by decide) (by decide) | exact fun _ => r _ _ (by decide) (by decide) | exact ⟨fun _ => r _ _ (by decide) (by decide), fun _ => r _ _ (by decide) (by decide), fun _ => r _ _ (by decide) (by decide), fun _ => r _ _ (by decide) (by decide)⟩
def a2f (a : Nat → Nat) (b n : Nat) (zs : List Nat) : Nat → Nat := fun k => if b ≤ k ∧ k < b + n then zs.getD (k - b) 0 else a k
def c2f (C : Nat → Nat → Int32) (b n : Nat) : Nat → Nat → Int32 := fun k => if b ≤ k ∧ k < b + n then fun _ => 0 else C k
def d2f (D : Nat → Nat → Int64) (b n : Nat) : Nat → Nat → Int64 := fun k => if b ≤ k ∧ k < b + n then fun _ => 0 else D k
theorem grow {cy : Nat → ClassId} {L2 : List Nat} {M2 : Nat → va_E} {a : Nat → Nat} {act : Nat → Bool} {C : Nat → Nat → Int32} {D : Nat → Nat → Int64} {R : Nat → Nat → Option Nat} (I : Inv C) (hA : AB act) (b n : Nat) (zs : List Nat) (hb1 : 50 ≤ b) (hb2 : b + n ≤ 88) (hbk : ∀ m, blk m ≠ blk b → ¬ (b ≤ m ∧ m < b + n)) (hbk2 : ∀ m, b ≤ m ∧ m < b + n → blk m = blk b) (hbs : ∀ m, blk m = blk b → b ≤ m ∧ m < b + n) (hno : ∀ k, b ≤ k ∧ k < b + n → (baseact k || act k) = false) {w1 : List (Nat × va_E)} (hw : w1 = (List.range' b n).map fun k => (a2f a b n zs k, ent cy (a2f a b n zs) (c2f C b n) (d2f D b n) R k)) (F2 : FW L2 M2 (w1 ++ (ksA act).map fun k => (a k, ent cy a C D R k))) : ∃ (a2 : Nat → Nat) (act2 : Nat → Bool) (C2 : Nat → Nat → Int32) (D2 : Nat → Nat → Int64), WI L2 M2 a2 act2 (ent cy a2 C2 D2 R) ∧ Inv C2 ∧ AB act2 ∧ (∀ k, ¬ (b ≤ k ∧ k < b + n) → a2 k = a k ∧ act2 k = act k ∧ C2 k = C k ∧ D2 k = D k) ∧ (∀ k, b ≤ k ∧ k < b + n → act2 k = true ∧ a2 k = zs.getD (k - b) 0) := by
  refine ⟨a2f a b n zs, fun k => act k || decide (b ≤ k ∧ k < b + n), c2f C b n, d2f D b n, ?_, ?_, ?_, ?_, ?_⟩
  · have old : ∀ k ∈ ksA act, (a k, ent cy a C D R k) = (a2f a b n zs k, ent cy (a2f a b n zs) (c2f C b n) (d2f D b n) R k) := by
      intro k hk
      have hka := ksA_act k hk
      have hnb : ¬ (b ≤ k ∧ k < b + n) := fun z => by rw [hno k z] at hka; cases hka
      have hbk' : blk k ≠ blk b := fun z => hnb (hbs k z)
      have e1 : a2f a b n zs k = a k := if_neg hnb
      have e2 : c2f C b n k = C k := if_neg hnb
      have e3 : d2f D b n k = D k := if_neg hnb
      have e4 : ent cy (a2f a b n zs) (c2f C b n) (d2f D b n) R k = ent cy a C D R k := by
        unfold ent
        rw [e2, e3]
        exact sh_cg k (CLs_in hA hka) (fun m hm => if_neg (hbk m (fun z => hbk' (hm.symm.trans z)))) _ _ _
      rw [e1, e4]
    have F3 : FW L2 M2 ((List.range' b n ++ ksA act).map fun k => (a2f a b n zs k, ent cy (a2f a b n zs) (c2f C b n) (d2f D b n) R k)) := by
      rw [List.map_append, ← hw, ← List.map_congr_left old]
      exact F2
    refine WI.ofFW F3 (fun k hk => ?_)
    by_cases hin : b ≤ k ∧ k < b + n
    · exact List.mem_append_left _ (List.mem_range'_1.mpr hin)
    · refine List.mem_append_right _ (ksA_mem hA ?_)
      have z : decide (b ≤ k ∧ k < b + n) = false := decide_eq_false hin
      rw [z, Bool.or_false] at hk
      exact hk
  · intro k j
    by_cases hin : b ≤ k ∧ k < b + n
    · have e : c2f C b n k j = 0 := by unfold c2f; rw [if_pos hin]
      rw [e]; exact okv_0 k j
    · have e : c2f C b n k j = C k j := by unfold c2f; rw [if_neg hin]
      rw [e]; exact I k j
  · intro k hk
    rcases (Bool.or_eq_true _ _).mp hk with z | z
    · exact hA k z
    · have := of_decide_eq_true z; omega
  · intro k hk
    exact ⟨if_neg hk, by show (act k || decide (b ≤ k ∧ k < b + n)) = act k; rw [decide_eq_false hk, Bool.or_false], if_neg hk, if_neg hk⟩
  · intro k hk
    exact ⟨by show (act k || decide (b ≤ k ∧ k < b + n)) = true; rw [decide_eq_true hk, Bool.or_true], if_pos hk⟩
theorem blk_50 : (∀ m, blk m ≠ blk 50 → ¬ (50 ≤ m ∧ m < 50 + 10)) ∧ (∀ m, 50 ≤ m ∧ m < 50 + 10 → blk m = blk 50) ∧ ∀ m, blk m = blk 50 → 50 ≤ m ∧ m < 50 + 10 := by
  have e : blk 50 = 1 := rfl
  have k : ∀ m, blk m = 1 ↔ 50 ≤ m ∧ m < 50 + 10 := by
    intro m
    unfold blk
    by_cases h1 : m < 50
    · rw [if_pos h1]; omega
    · rw [if_neg h1]
      by_cases h2 : m < 80
      · rw [if_pos h2]; omega
      · rw [if_neg h2]
        by_cases h3 : m < 88
        · rw [if_pos h3]; omega
        · rw [if_neg h3]; omega
  rw [e]
  exact ⟨fun m h z => h ((k m).mpr z), fun m z => (k m).mpr z, fun m z => (k m).mp z⟩
theorem blk_60 : (∀ m, blk m ≠ blk 60 → ¬ (60 ≤ m ∧ m < 60 + 10)) ∧ (∀ m, 60 ≤ m ∧ m < 60 + 10 → blk m = blk 60) ∧ ∀ m, blk m = blk 60 → 60 ≤ m ∧ m < 60 + 10 := by
  have e : blk 60 = 2 := rfl
  have k : ∀ m, blk m = 2 ↔ 60 ≤ m ∧ m < 60 + 10 := by
    intro m
    unfold blk
    by_cases h1 : m < 50
    · rw [if_pos h1]; omega
    · rw [if_neg h1]
      by_cases h2 : m < 80
      · rw [if_pos h2]; omega
      · rw [if_neg h2]
        by_cases h3 : m < 88
        · rw [if_pos h3]; omega
        · rw [if_neg h3]; omega
  rw [e]
  exact ⟨fun m h z => h ((k m).mpr z), fun m z => (k m).mpr z, fun m z => (k m).mp z⟩
theorem blk_70 : (∀ m, blk m ≠ blk 70 → ¬ (70 ≤ m ∧ m < 70 + 10)) ∧ (∀ m, 70 ≤ m ∧ m < 70 + 10 → blk m = blk 70) ∧ ∀ m, blk m = blk 70 → 70 ≤ m ∧ m < 70 + 10 := by
  have e : blk 70 = 3 := rfl
  have k : ∀ m, blk m = 3 ↔ 70 ≤ m ∧ m < 70 + 10 := by
    intro m
    unfold blk
    by_cases h1 : m < 50
    · rw [if_pos h1]; omega
    · rw [if_neg h1]
      by_cases h2 : m < 80
      · rw [if_pos h2]; omega
      · rw [if_neg h2]
        by_cases h3 : m < 88
        · rw [if_pos h3]; omega
        · rw [if_neg h3]; omega
  rw [e]
  exact ⟨fun m h z => h ((k m).mpr z), fun m z => (k m).mpr z, fun m z => (k m).mp z⟩
theorem blk_80 : (∀ m, blk m ≠ blk 80 → ¬ (80 ≤ m ∧ m < 80 + 2)) ∧ (∀ m, 80 ≤ m ∧ m < 80 + 2 → blk m = blk 80) ∧ ∀ m, blk m = blk 80 → 80 ≤ m ∧ m < 80 + 2 := by
  have e : blk 80 = 4 := rfl
  have k : ∀ m, blk m = 4 ↔ 80 ≤ m ∧ m < 80 + 2 := by
    intro m
    unfold blk
    by_cases h1 : m < 50
    · rw [if_pos h1]; omega
    · rw [if_neg h1]
      by_cases h2 : m < 80
      · rw [if_pos h2]; omega
      · rw [if_neg h2]
        by_cases h3 : m < 88
        · rw [if_pos h3]; omega
        · rw [if_neg h3]; omega
  rw [e]
  exact ⟨fun m h z => h ((k m).mpr z), fun m z => (k m).mpr z, fun m z => (k m).mp z⟩
theorem blk_82 : (∀ m, blk m ≠ blk 82 → ¬ (82 ≤ m ∧ m < 82 + 2)) ∧ (∀ m, 82 ≤ m ∧ m < 82 + 2 → blk m = blk 82) ∧ ∀ m, blk m = blk 82 → 82 ≤ m ∧ m < 82 + 2 := by
  have e : blk 82 = 5 := rfl
  have k : ∀ m, blk m = 5 ↔ 82 ≤ m ∧ m < 82 + 2 := by
    intro m
    unfold blk
    by_cases h1 : m < 50
    · rw [if_pos h1]; omega
    · rw [if_neg h1]
      by_cases h2 : m < 80
      · rw [if_pos h2]; omega
      · rw [if_neg h2]
        by_cases h3 : m < 88
        · rw [if_pos h3]; omega
        · rw [if_neg h3]; omega
  rw [e]
  exact ⟨fun m h z => h ((k m).mpr z), fun m z => (k m).mpr z, fun m z => (k m).mp z⟩
theorem blk_84 : (∀ m, blk m ≠ blk 84 → ¬ (84 ≤ m ∧ m < 84 + 2)) ∧ (∀ m, 84 ≤ m ∧ m < 84 + 2 → blk m = blk 84) ∧ ∀ m, blk m = blk 84 → 84 ≤ m ∧ m < 84 + 2 := by
  have e : blk 84 = 6 := rfl
  have k : ∀ m, blk m = 6 ↔ 84 ≤ m ∧ m < 84 + 2 := by
    intro m
    unfold blk
    by_cases h1 : m < 50
    · rw [if_pos h1]; omega
    · rw [if_neg h1]
      by_cases h2 : m < 80
      · rw [if_pos h2]; omega
      · rw [if_neg h2]
        by_cases h3 : m < 88
        · rw [if_pos h3]; omega
        · rw [if_neg h3]; omega
  rw [e]
  exact ⟨fun m h z => h ((k m).mpr z), fun m z => (k m).mpr z, fun m z => (k m).mp z⟩
theorem blk_86 : (∀ m, blk m ≠ blk 86 → ¬ (86 ≤ m ∧ m < 86 + 2)) ∧ (∀ m, 86 ≤ m ∧ m < 86 + 2 → blk m = blk 86) ∧ ∀ m, blk m = blk 86 → 86 ≤ m ∧ m < 86 + 2 := by
  have e : blk 86 = 7 := rfl
  have k : ∀ m, blk m = 7 ↔ 86 ≤ m ∧ m < 86 + 2 := by
    intro m
    unfold blk
    by_cases h1 : m < 50
    · rw [if_pos h1]; omega
    · rw [if_neg h1]
      by_cases h2 : m < 80
      · rw [if_pos h2]; omega
      · rw [if_neg h2]
        by_cases h3 : m < 88
        · rw [if_pos h3]; omega
        · rw [if_neg h3]; omega
  rw [e]
  exact ⟨fun m h z => h ((k m).mpr z), fun m z => (k m).mpr z, fun m z => (k m).mp z⟩
theorem i_aast {p : Program} {l : Launch} {e : Env} {s : State} {m : MethodId} {args : Array Value} {below : List Frame} {meth : Method} {c : Code} {own : String} {cc : ByteArray} {nL : Nat} {G : va_G} {cy : Nat → ClassId} {A : Nat → Prop} {Rm : Room} {cells slots : Nat} {Q : State → Prop} {L : List Nat} {M : Nat → va_E} {pc : Nat} {lv : List (Nat × Value)} {st : List Value} {a : Nat → Nat} {act : Nat → Bool} {C : Nat → Nat → Int32} {D : Nat → Nat → Int64} {R : Nat → Nat → Option Nat} (X : Cx p s m args meth c own cc nL G cy A) (F : WI L M a act (ent cy a C D R)) (k : Nat) (hk : (baseact k || act k) = true) (k2 : Nat) (hk2 : (baseact k2 || act k2) = true) {t0 N ci : Nat} {cA : ClassId} {rr : vw_C} {vs : List Value} {i : Int32} (ht : (tyL cy)[t0]? = some (cA, .object rr.1)) (hc : vwCl[ci]? = some rr) (he : ∀ z, sh cy a k (C k) (D k) z = .inl (cA, N, .inr (.inr (.inr (.inr z))))) (he2 : sh cy a k2 (C k2) (D k2) (R k2) = .inr (ci, vs)) (hd : decode cc pc = .ok (.aastore, 1)) (hin : vp_in i N) (kk : ∀ (M : Nat → va_E) (R2 : Nat → Nat → Option Nat), WI L M a act (ent cy a C D R2) → (∀ k3, k3 ≠ k → R2 k3 = R k3) → R2 k = va_up (R k) i.toNatClampNeg (some (a k2)) → Go p l e Rm s m args below meth c nL G A cells slots Q L M (pc + 1) lv st) : Go p l e Rm s m args below meth c nL G A cells slots Q L M pc lv (.ref (a k2) :: .int i :: .ref (a k) :: st) := by
  refine g_astq X ht hc hd (F.1 k hk).2 ((F.1 k hk).1.trans (he (R k))) (F.1 k2 hk2).2 ((F.1 k2 hk2).1.trans he2) hin ?_
  have F2 := F.set (E2 := ent cy a C D (va_up R k (va_up (R k) i.toNatClampNeg (some (a k2))))) hk ent_neR
  have e2 : ent cy a C D (va_up R k (va_up (R k) i.toNatClampNeg (some (a k2)))) k = .inl (cA, N, .inr (.inr (.inr (.inr (va_up (R k) i.toNatClampNeg (some (a k2))))))) := by unfold ent; rw [va_up_self]; exact he _
  rw [e2] at F2
  exact kk _ _ F2 (fun k3 h => va_up_ne _ _ h) (va_up_self _ _ _)
theorem RA_23 {a a2 : Nat → Nat} {act act2 : Nat → Bool} {R R2 : Nat → Nat → Option Nat} (H : RA a act R) (c : Nat) (hc : c < 3) (hk : ∀ k, ¬ (50 + 10 * c ≤ k ∧ k < 50 + 10 * c + 10) → a2 k = a k ∧ act2 k = act k) (hn : ∀ k, 50 + 10 * c ≤ k ∧ k < 50 + 10 * c + 10 → act2 k = true) (hR : ∀ k3, k3 ≠ 23 → R2 k3 = R k3) (hRc : R2 23 = va_up (R 23) c (some (a2 (50 + 10 * c)))) : RA a2 act2 R2 := by
  obtain ⟨h1, h2, h3, h4⟩ := H
  refine ⟨fun j hj => ?_, fun j hj => ?_, fun j hj => ?_, fun j hj i hi => ?_⟩
  · rw [hR 24 (by decide), h1 j hj]
    have e := hk (80 + 2 * j) (by omega)
    rw [e.1, e.2]
  · rw [hRc]
    by_cases e : j = c
    · subst e
      rw [va_up_self, hn (50 + 10 * j) (by omega)]; rfl
    · rw [va_up_ne _ _ e, h2 j hj]
      have e2 := hk (50 + 10 * j) (by omega)
      rw [e2.1, e2.2]
  · rw [(hk (81 + 2 * j) (by omega)).2, (hk (80 + 2 * j) (by omega)).2]; exact h3 j hj
  · by_cases e : j = c
    · subst e
      rw [hn _ (by omega), hn _ (by omega)]
    · rw [(hk _ (by omega)).2, (hk _ (by omega)).2]; exact h4 j hj i hi
theorem RA_24 {a a2 : Nat → Nat} {act act2 : Nat → Bool} {R R2 : Nat → Nat → Option Nat} (H : RA a act R) (c : Nat) (hc : c < 4) (hk : ∀ k, ¬ (80 + 2 * c ≤ k ∧ k < 80 + 2 * c + 2) → a2 k = a k ∧ act2 k = act k) (hn : ∀ k, 80 + 2 * c ≤ k ∧ k < 80 + 2 * c + 2 → act2 k = true) (hR : ∀ k3, k3 ≠ 24 → R2 k3 = R k3) (hRc : R2 24 = va_up (R 24) c (some (a2 (80 + 2 * c)))) : RA a2 act2 R2 := by
  obtain ⟨h1, h2, h3, h4⟩ := H
  refine ⟨fun j hj => ?_, fun j hj => ?_, fun j hj => ?_, fun j hj i hi => ?_⟩
  · rw [hRc]
    by_cases e : j = c
    · subst e
      rw [va_up_self, hn (80 + 2 * j) (by omega)]; rfl
    · rw [va_up_ne _ _ e, h1 j hj]
      have e2 := hk (80 + 2 * j) (by omega)
      rw [e2.1, e2.2]
  · rw [hR 23 (by decide), h2 j hj]
    have e := hk (50 + 10 * j) (by omega)
    rw [e.1, e.2]
  · by_cases e : j = c
    · subst e
      rw [hn _ (by omega), hn _ (by omega)]
    · rw [(hk _ (by omega)).2, (hk _ (by omega)).2]; exact h3 j hj
  · rw [(hk _ (by omega)).2, (hk _ (by omega)).2]; exact h4 j hj i hi
theorem wd1052 : Cond.methodLink RX7 3 objectInit ∈ tblG := gw1 23 (by decide +kernel) (by decide +kernel)
theorem wd1053 : Cond.instanceMethod objectInit ∈ tblG := gw1 24 (by decide +kernel) (by decide +kernel)
theorem wd1054 : Cond.code objectInit ⟨#[0xb1]⟩ 1 none ∈ tblG := gw1 25 (by decide +kernel) (by decide +kernel)
theorem wd1055 : Cond.classLink RX7 9 RX6 ∈ tblG := gw1 26 (by decide +kernel) (by decide +kernel)
theorem wd1056 : Cond.instantiable RX6 8 ∈ tblG := gw1 27 (by decide +kernel) (by decide +kernel)
theorem wd1057 : Cond.instanceMethod yX6_init ∈ tblG := gw1 29 (by decide +kernel) (by decide +kernel)
theorem wd1058 : Cond.code yX6_init cX6_init 1 none ∈ tblG := gw1 30 (by decide +kernel) (by decide +kernel)
theorem pl_X6_init : Plain yX6_init 0 := ⟨by decide, by decide, by decide +kernel⟩
theorem lk_X7_11 : LkI RX7 11 yX6_init cX6_init 1 0 := ⟨Or.inr ⟨"ObligingPosts", List.mem_of_getElem? (i := 64) (by decide +kernel)⟩, rfl, wd1057, wd384, wd1058, pl_X6_init⟩
theorem wd1059 : Cond.methodLink RX6 3 objectInit ∈ tblG := gw1 31 (by decide +kernel) (by decide +kernel)
theorem wd1060 : Cond.arrayClass .byte ∈ tblG := gw1 60 (by decide +kernel) (by decide +kernel)
theorem wd1061 : Cond.classLink RX7 16 RX2 ∈ tblG := gw1 61 (by decide +kernel) (by decide +kernel)
theorem wd1062 : Cond.instantiable RX2 16 ∈ tblG := gw1 62 (by decide +kernel) (by decide +kernel)
theorem wd1063 : Cond.instanceMethod yX2_init ∈ tblG := gw1 64 (by decide +kernel) (by decide +kernel)
theorem wd1064 : Cond.code yX2_init cX2_init 1 none ∈ tblG := gw1 65 (by decide +kernel) (by decide +kernel)
theorem pl_X2_init : Plain yX2_init 0 := ⟨by decide, by decide, by decide +kernel⟩
theorem lk_X7_18 : LkI RX7 18 yX2_init cX2_init 1 0 := ⟨Or.inr ⟨"ObligingPosts", List.mem_of_getElem? (i := 65) (by decide +kernel)⟩, rfl, wd1063, wd7, wd1064, pl_X2_init⟩
theorem wd1065 : Cond.methodLink RX2 3 objectInit ∈ tblG := gw1 66 (by decide +kernel) (by decide +kernel)
theorem wd1066 : Cond.arrayClass .int ∈ tblG := gw1 84 (by decide +kernel) (by decide +kernel)
theorem wd1067 : Cond.classLink RX2 58 RX0 ∈ tblG := gw1 67 (by decide +kernel) (by decide +kernel)
theorem wd1068 : Cond.instantiable RX0 3 ∈ tblG := gw1 68 (by decide +kernel) (by decide +kernel)
theorem wd1069 : Cond.instanceMethod yX0_init ∈ tblG := gw1 70 (by decide +kernel) (by decide +kernel)
theorem wd1070 : Cond.code yX0_init cX0_init 1 none ∈ tblG := gw1 71 (by decide +kernel) (by decide +kernel)
theorem pl_X0_init : Plain yX0_init 0 := ⟨by decide, by decide, by decide +kernel⟩
theorem lk_X2_60 : LkI RX2 60 yX0_init cX0_init 1 0 := ⟨Or.inr ⟨"ObligingPosts", List.mem_of_getElem? (i := 67) (by decide +kernel)⟩, rfl, wd1069, wd93, wd1070, pl_X0_init⟩
theorem wd1071 : Cond.methodLink RX0 3 objectInit ∈ tblG := gw1 72 (by decide +kernel) (by decide +kernel)
theorem wd1072 : Cond.classLink RX7 30 RX5 ∈ tblG := gw1 181 (by decide +kernel) (by decide +kernel)
theorem wd1073 : Cond.classLink RX7 36 RX4 ∈ tblG := gw1 183 (by decide +kernel) (by decide +kernel)
theorem wd1074 : Cond.instantiable RX4 9 ∈ tblG := gw1 184 (by decide +kernel) (by decide +kernel)
theorem wd1075 : Cond.methodLink RX7 38 yX4_init ∈ tblG := gw1 185 (by decide +kernel) (by decide +kernel)
theorem wd1076 : Cond.instanceMethod yX4_init ∈ tblG := gw1 186 (by decide +kernel) (by decide +kernel)
theorem wd1077 : Cond.code yX4_init cX4_init 2 none ∈ tblG := gw1 187 (by decide +kernel) (by decide +kernel)
theorem pl_X4_init : Plain yX4_init 1 := ⟨by decide, by decide, by decide +kernel⟩
theorem lk_X7_38 : LkI RX7 38 yX4_init cX4_init 2 1 := ⟨Or.inl wd1075, rfl, wd1076, wd48, wd1077, pl_X4_init⟩
theorem wd1078 : Cond.methodLink RX4 3 objectInit ∈ tblG := gw1 188 (by decide +kernel) (by decide +kernel)
theorem wd1079 : Cond.classLink RX7 48 RX3 ∈ tblG := gw1 224 (by decide +kernel) (by decide +kernel)
theorem wd1080 : Cond.instantiable RX3 3 ∈ tblG := gw1 225 (by decide +kernel) (by decide +kernel)
theorem wd1081 : Cond.methodLink RX7 50 yX3_init ∈ tblG := gw1 226 (by decide +kernel) (by decide +kernel)
theorem wd1082 : Cond.instanceMethod yX3_init ∈ tblG := gw1 227 (by decide +kernel) (by decide +kernel)
theorem wd1083 : Cond.code yX3_init cX3_init 2 none ∈ tblG := gw1 228 (by decide +kernel) (by decide +kernel)
theorem pl_X3_init : Plain yX3_init 1 := ⟨by decide, by decide, by decide +kernel⟩
theorem lk_X7_50 : LkI RX7 50 yX3_init cX3_init 2 1 := ⟨Or.inl wd1081, rfl, wd1082, wd307, wd1083, pl_X3_init⟩
theorem wd1084 : Cond.methodLink RX3 3 objectInit ∈ tblG := gw1 229 (by decide +kernel) (by decide +kernel)
theorem wd1085 : Cond.classLink RX7 55 RX1 ∈ tblG := gw2 2 (by decide +kernel) (by decide +kernel)
theorem wd1086 : Cond.instantiable RX1 4 ∈ tblG := gw2 3 (by decide +kernel) (by decide +kernel)
theorem wd1087 : Cond.methodLink RX7 57 yX1_init ∈ tblG := gw2 4 (by decide +kernel) (by decide +kernel)
theorem wd1088 : Cond.instanceMethod yX1_init ∈ tblG := gw2 5 (by decide +kernel) (by decide +kernel)
theorem wd1089 : Cond.code yX1_init cX1_init 2 none ∈ tblG := gw2 6 (by decide +kernel) (by decide +kernel)
theorem pl_X1_init : Plain yX1_init 1 := ⟨by decide, by decide, by decide +kernel⟩
theorem lk_X7_57 : LkI RX7 57 yX1_init cX1_init 2 1 := ⟨Or.inl wd1087, rfl, wd1088, wd520, wd1089, pl_X1_init⟩
theorem wd1090 : Cond.methodLink RX1 3 objectInit ∈ tblG := gw2 7 (by decide +kernel) (by decide +kernel)
theorem wd1091 : Cond.arrayClass .long ∈ tblG := gw2 23 (by decide +kernel) (by decide +kernel)
theorem wd1092 : Cond.methodLink RX8 3 objectInit ∈ tblG := gw6 34 (by decide +kernel) (by decide +kernel)
theorem wd1093 : Cond.arrayClass .boolean ∈ tblG := gw6 158 (by decide +kernel) (by decide +kernel)
theorem wd1094 : Cond.methodLink RX5 3 objectInit ∈ tblG := gw5 230 (by decide +kernel) (by decide +kernel)
abbrev flC (cy : Nat → ClassId) (a : Nat → Nat) : List (Nat × va_E) := [(a 0, .inr (7, [.ref (a 1), .ref (a 3), .ref (a 13), .ref (a 23), .ref (a 24), .ref (a 25), .ref (a 31), .ref (a 37), .ref (a 39), .ref (a 41), .int 0, .ref (a 42)])), (a 1, .inr (6, [.ref (a 2), .int 0, .int 0, .int (-1), .int 0, .int 0, .int 0, .int 0])), (a 2, .inl (cy 0, 800, .inl (fun _ => 0))), (a 3, .inr (2, [.int 0, .int 0, .int 0, .int 0, .int 0, .int 0, .int 0, .int 0, .int 0, .ref (a 4), .ref (a 5), .ref (a 6), .ref (a 7), .ref (a 8), .ref (a 9), .ref (a 10)])), (a 4, .inl (cy 1, 4, .inl (fun _ => 0))), (a 5, .inl (cy 1, 7, .inl (fun _ => 0))), (a 6, .inl (cy 1, 28, .inl (fun _ => 0))), (a 7, .inl (cy 1, 7, .inl (fun _ => 0))), (a 8, .inl (cy 1, 8, .inl (fun _ => 0))), (a 9, .inl (cy 1, 8, .inl (fun _ => 0))), (a 10, .inr (0, [.int 0, .ref (a 11), .ref (a 12)])), (a 11, .inl (cy 1, 30, .inl (fun _ => 0))), (a 12, .inl (cy 1, 240, .inl (fun _ => 0))), (a 13, .inr (2, [.int 0, .int 0, .int 0, .int 0, .int 0, .int 0, .int 0, .int 0, .int 0, .ref (a 14), .ref (a 15), .ref (a 16), .ref (a 17), .ref (a 18), .ref (a 19), .ref (a 20)])), (a 14, .inl (cy 1, 4, .inl (fun _ => 0))), (a 15, .inl (cy 1, 7, .inl (fun _ => 0))), (a 16, .inl (cy 1, 28, .inl (fun _ => 0))), (a 17, .inl (cy 1, 7, .inl (fun _ => 0))), (a 18, .inl (cy 1, 8, .inl (fun _ => 0))), (a 19, .inl (cy 1, 8, .inl (fun _ => 0))), (a 20, .inr (0, [.int 0, .ref (a 21), .ref (a 22)])), (a 21, .inl (cy 1, 30, .inl (fun _ => 0))), (a 22, .inl (cy 1, 240, .inl (fun _ => 0))), (a 23, .inl (cy 4, 3, .inr (.inr (.inr (.inr (fun _ => none)))))), (a 24, .inl (cy 5, 4, .inr (.inr (.inr (.inr (fun _ => none)))))), (a 25, .inr (4, [.ref (a 3), .int 0, .int 127, .int 0, .ref (a 26), .ref (a 27), .ref (a 28), .ref (a 29), .ref (a 30)])), (a 26, .inl (cy 1, 8, .inl (fun _ => 0))), (a 27, .inl (cy 1, 136, .inl (fun _ => 0))), (a 28, .inl (cy 1, 119, .inl (fun _ => 0))), (a 29, .inl (cy 1, 136, .inl (fun _ => 0))), (a 30, .inl (cy 1, 4, .inl (fun _ => 0))), (a 31, .inr (4, [.ref (a 3), .int 0, .int 127, .int 0, .ref (a 32), .ref (a 33), .ref (a 34), .ref (a 35), .ref (a 36)])), (a 32, .inl (cy 1, 8, .inl (fun _ => 0))), (a 33, .inl (cy 1, 136, .inl (fun _ => 0))), (a 34, .inl (cy 1, 119, .inl (fun _ => 0))), (a 35, .inl (cy 1, 136, .inl (fun _ => 0))), (a 36, .inl (cy 1, 4, .inl (fun _ => 0))), (a 37, .inr (3, [.ref (a 3), .ref (a 38), .int 0])), (a 38, .inl (cy 1, 7, .inl (fun _ => 0))), (a 39, .inr (1, [.ref (a 3), .int (-1), .ref (a 40), .long 1])), (a 40, .inl (cy 2, 8, .inr (.inl (fun _ => 0)))), (a 41, .inl (cy 1, 128, .inl (fun _ => 0))), (a 42, .inl (cy 1, 544, .inl (fun _ => 0)))]
abbrev flM (cy : Nat → ClassId) (b : Nat → Nat) (ts : Int32) (pn : Nat → Int32) : List (Nat × va_E) := [(b 0, .inr (8, .int 0 :: .ref (b 1) :: .ref (b 2) :: .ref (b 3) :: .ref (b 4) :: .int 0 :: .ref (b 6) :: .int 0 :: .int 0 :: .int 0 :: .int 0 :: .int 0 :: .int 0 :: .int (-1) :: .ref (b 14) :: .ref (b 15) :: .ref (b 16) :: .int 0 :: .int 0 :: .int ts :: .ref (b 20) :: .ref (b 21) :: .ref (b 22) :: .ref (b 23) :: .ref (b 24) :: .ref (b 25) :: .ref (b 26) :: .ref (b 27) :: .ref (b 28) :: .ref (b 29) :: .int 0 :: .ref (b 31) :: .int 0 :: .ref (b 33) :: .long 0 :: .long 0 :: .long 0 :: .ref (b 37) :: .ref (b 38) :: .ref (b 39) :: .ref (b 40) :: [])), (b 1, .inl (cy 1, 102, .inl (fun _ => 0))), (b 2, .inl (cy 1, 306, .inl (fun _ => 0))), (b 3, .inl (cy 3, 3, .inl (fun _ => 0))), (b 4, .inl (cy 0, 800, .inl (fun _ => 0))), (b 6, .inl (cy 1, 5, .inl (fun _ => 0))), (b 14, .inl (cy 1, 102, .inl (fun _ => 0))), (b 15, .inl (cy 1, 7, .inl (fun _ => 0))), (b 16, .inl (cy 1, 8, .inl (fun _ => 0))), (b 20, .inl (cy 1, 7, .inl (fun _ => 0))), (b 21, .inl (cy 1, 8, .inl pn)), (b 22, .inl (cy 1, 136, .inl (fun _ => 0))), (b 23, .inl (cy 1, 119, .inl (fun _ => 0))), (b 24, .inl (cy 1, 16, .inl (fun _ => 0))), (b 25, .inl (cy 1, 28, .inl (fun _ => 0))), (b 26, .inl (cy 1, 8, .inl (fun _ => 0))), (b 27, .inl (cy 1, 4, .inl (fun _ => 0))), (b 28, .inl (cy 1, 4, .inl (fun _ => 0))), (b 29, .inl (cy 1, 7, .inl (fun _ => 0))), (b 31, .inl (cy 1, 544, .inl (fun _ => 0))), (b 33, .inl (cy 1, 128, .inl (fun _ => 0))), (b 37, .inl (cy 1, 4, .inl (upd (upd (upd (upd (fun _ => 0) ((0 : Int32).toNatClampNeg) (-1)) ((1 : Int32).toNatClampNeg) (-1)) ((2 : Int32).toNatClampNeg) (-1)) ((3 : Int32).toNatClampNeg) (-1)))), (b 38, .inl (cy 1, 4, .inl (fun _ => 0))), (b 39, .inl (cy 2, 240, .inr (.inl (fun _ => 0)))), (b 40, .inl (cy 2, 60, .inr (.inl (fun _ => 0))))]
