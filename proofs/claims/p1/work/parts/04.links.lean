theorem dX0_init_0 : decode cX0_init 0 = .ok (.aload_n 0, 1) := by decide +kernel
theorem dX0_init_1 : decode cX0_init 1 = .ok (.invokespecial 3, 3) := by decide +kernel
theorem dX0_init_4 : decode cX0_init 4 = .ok (.aload_n 0, 1) := by decide +kernel
theorem dX0_init_5 : decode cX0_init 5 = .ok (.iconst 0, 1) := by decide +kernel
theorem dX0_init_6 : decode cX0_init 6 = .ok (.putfield 9, 3) := by decide +kernel
theorem dX0_init_9 : decode cX0_init 9 = .ok (.aload_n 0, 1) := by decide +kernel
theorem dX0_init_10 : decode cX0_init 10 = .ok (.bipush 30, 2) := by decide +kernel
theorem dX0_init_12 : decode cX0_init 12 = .ok (.newarray .int, 2) := by decide +kernel
theorem dX0_init_14 : decode cX0_init 14 = .ok (.putfield 15, 3) := by decide +kernel
theorem dX0_init_17 : decode cX0_init 17 = .ok (.aload_n 0, 1) := by decide +kernel
theorem dX0_init_18 : decode cX0_init 18 = .ok (.sipush 240, 3) := by decide +kernel
theorem dX0_init_21 : decode cX0_init 21 = .ok (.newarray .int, 2) := by decide +kernel
theorem dX0_init_23 : decode cX0_init 23 = .ok (.putfield 19, 3) := by decide +kernel
theorem dX0_init_26 : decode cX0_init 26 = .ok (.return_, 1) := by decide +kernel
theorem dX0_clear_0 : decode cX0_clear 0 = .ok (.aload_n 0, 1) := by decide +kernel
theorem dX0_clear_1 : decode cX0_clear 1 = .ok (.iconst 0, 1) := by decide +kernel
theorem dX0_clear_2 : decode cX0_clear 2 = .ok (.putfield 9, 3) := by decide +kernel
theorem dX0_clear_5 : decode cX0_clear 5 = .ok (.aload_n 0, 1) := by decide +kernel
theorem dX0_clear_6 : decode cX0_clear 6 = .ok (.getfield 19, 3) := by decide +kernel
theorem dX0_clear_9 : decode cX0_clear 9 = .ok (.iconst 0, 1) := by decide +kernel
theorem dX0_clear_10 : decode cX0_clear 10 = .ok (.invokestatic 22, 3) := by decide +kernel
theorem dX0_clear_13 : decode cX0_clear 13 = .ok (.return_, 1) := by decide +kernel
theorem dX0_copyFrom_0 : decode cX0_copyFrom 0 = .ok (.aload_n 0, 1) := by decide +kernel
theorem dX0_copyFrom_1 : decode cX0_copyFrom 1 = .ok (.aload_n 1, 1) := by decide +kernel
theorem dX0_copyFrom_2 : decode cX0_copyFrom 2 = .ok (.getfield 9, 3) := by decide +kernel
theorem dX0_copyFrom_5 : decode cX0_copyFrom 5 = .ok (.putfield 9, 3) := by decide +kernel
theorem dX0_copyFrom_8 : decode cX0_copyFrom 8 = .ok (.aload_n 1, 1) := by decide +kernel
theorem dX0_copyFrom_9 : decode cX0_copyFrom 9 = .ok (.getfield 15, 3) := by decide +kernel
theorem dX0_copyFrom_12 : decode cX0_copyFrom 12 = .ok (.iconst 0, 1) := by decide +kernel
theorem dX0_copyFrom_13 : decode cX0_copyFrom 13 = .ok (.aload_n 0, 1) := by decide +kernel
theorem dX0_copyFrom_14 : decode cX0_copyFrom 14 = .ok (.getfield 15, 3) := by decide +kernel
theorem dX0_copyFrom_17 : decode cX0_copyFrom 17 = .ok (.iconst 0, 1) := by decide +kernel
theorem dX0_copyFrom_18 : decode cX0_copyFrom 18 = .ok (.bipush 30, 2) := by decide +kernel
theorem dX0_copyFrom_20 : decode cX0_copyFrom 20 = .ok (.invokestatic 28, 3) := by decide +kernel
theorem dX0_copyFrom_23 : decode cX0_copyFrom 23 = .ok (.aload_n 1, 1) := by decide +kernel
theorem dX0_copyFrom_24 : decode cX0_copyFrom 24 = .ok (.getfield 19, 3) := by decide +kernel
theorem dX0_copyFrom_27 : decode cX0_copyFrom 27 = .ok (.iconst 0, 1) := by decide +kernel
theorem dX0_copyFrom_28 : decode cX0_copyFrom 28 = .ok (.aload_n 0, 1) := by decide +kernel
theorem dX0_copyFrom_29 : decode cX0_copyFrom 29 = .ok (.getfield 19, 3) := by decide +kernel
theorem dX0_copyFrom_32 : decode cX0_copyFrom 32 = .ok (.iconst 0, 1) := by decide +kernel
theorem dX0_copyFrom_33 : decode cX0_copyFrom 33 = .ok (.aload_n 0, 1) := by decide +kernel
theorem dX0_copyFrom_34 : decode cX0_copyFrom 34 = .ok (.getfield 19, 3) := by decide +kernel
theorem dX0_copyFrom_37 : decode cX0_copyFrom 37 = .ok (.arraylength, 1) := by decide +kernel
theorem dX0_copyFrom_38 : decode cX0_copyFrom 38 = .ok (.invokestatic 28, 3) := by decide +kernel
theorem dX0_copyFrom_41 : decode cX0_copyFrom 41 = .ok (.return_, 1) := by decide +kernel
theorem dX1_init_0 : decode cX1_init 0 = .ok (.aload_n 0, 1) := by decide +kernel
theorem dX1_init_1 : decode cX1_init 1 = .ok (.invokespecial 3, 3) := by decide +kernel
theorem dX1_init_4 : decode cX1_init 4 = .ok (.aload_n 0, 1) := by decide +kernel
theorem dX1_init_5 : decode cX1_init 5 = .ok (.iconst (-1), 1) := by decide +kernel
theorem dX1_init_6 : decode cX1_init 6 = .ok (.putfield 9, 3) := by decide +kernel
theorem dX1_init_9 : decode cX1_init 9 = .ok (.aload_n 0, 1) := by decide +kernel
theorem dX1_init_10 : decode cX1_init 10 = .ok (.bipush 8, 2) := by decide +kernel
theorem dX1_init_12 : decode cX1_init 12 = .ok (.newarray .long, 2) := by decide +kernel
theorem dX1_init_14 : decode cX1_init 14 = .ok (.putfield 15, 3) := by decide +kernel
theorem dX1_init_17 : decode cX1_init 17 = .ok (.aload_n 0, 1) := by decide +kernel
theorem dX1_init_18 : decode cX1_init 18 = .ok (.lconst 1, 1) := by decide +kernel
theorem dX1_init_19 : decode cX1_init 19 = .ok (.putfield 19, 3) := by decide +kernel
theorem dX1_init_22 : decode cX1_init 22 = .ok (.aload_n 0, 1) := by decide +kernel
theorem dX1_init_23 : decode cX1_init 23 = .ok (.aload_n 1, 1) := by decide +kernel
theorem dX1_init_24 : decode cX1_init 24 = .ok (.putfield 23, 3) := by decide +kernel
theorem dX1_init_27 : decode cX1_init 27 = .ok (.return_, 1) := by decide +kernel
theorem dX1_forget_0 : decode cX1_forget 0 = .ok (.aload_n 0, 1) := by decide +kernel
theorem dX1_forget_1 : decode cX1_forget 1 = .ok (.iconst (-1), 1) := by decide +kernel
theorem dX1_forget_2 : decode cX1_forget 2 = .ok (.putfield 9, 3) := by decide +kernel
theorem dX1_forget_5 : decode cX1_forget 5 = .ok (.return_, 1) := by decide +kernel
theorem dX2_init_0 : decode cX2_init 0 = .ok (.aload_n 0, 1) := by decide +kernel
theorem dX2_init_1 : decode cX2_init 1 = .ok (.invokespecial 3, 3) := by decide +kernel
theorem dX2_init_4 : decode cX2_init 4 = .ok (.aload_n 0, 1) := by decide +kernel
theorem dX2_init_5 : decode cX2_init 5 = .ok (.iconst 0, 1) := by decide +kernel
theorem dX2_init_6 : decode cX2_init 6 = .ok (.putfield 9, 3) := by decide +kernel
theorem dX2_init_9 : decode cX2_init 9 = .ok (.aload_n 0, 1) := by decide +kernel
theorem dX2_init_10 : decode cX2_init 10 = .ok (.iconst 0, 1) := by decide +kernel
theorem dX2_init_11 : decode cX2_init 11 = .ok (.putfield 15, 3) := by decide +kernel
theorem dX2_init_14 : decode cX2_init 14 = .ok (.aload_n 0, 1) := by decide +kernel
theorem dX2_init_15 : decode cX2_init 15 = .ok (.iconst 0, 1) := by decide +kernel
theorem dX2_init_16 : decode cX2_init 16 = .ok (.putfield 18, 3) := by decide +kernel
theorem dX2_init_19 : decode cX2_init 19 = .ok (.aload_n 0, 1) := by decide +kernel
theorem dX2_init_20 : decode cX2_init 20 = .ok (.iconst 0, 1) := by decide +kernel
theorem dX2_init_21 : decode cX2_init 21 = .ok (.putfield 21, 3) := by decide +kernel
theorem dX2_init_24 : decode cX2_init 24 = .ok (.aload_n 0, 1) := by decide +kernel
theorem dX2_init_25 : decode cX2_init 25 = .ok (.iconst 0, 1) := by decide +kernel
theorem dX2_init_26 : decode cX2_init 26 = .ok (.putfield 24, 3) := by decide +kernel
theorem dX2_init_29 : decode cX2_init 29 = .ok (.aload_n 0, 1) := by decide +kernel
theorem dX2_init_30 : decode cX2_init 30 = .ok (.iconst 0, 1) := by decide +kernel
theorem dX2_init_31 : decode cX2_init 31 = .ok (.putfield 27, 3) := by decide +kernel
theorem dX2_init_34 : decode cX2_init 34 = .ok (.aload_n 0, 1) := by decide +kernel
theorem dX2_init_35 : decode cX2_init 35 = .ok (.iconst 0, 1) := by decide +kernel
theorem dX2_init_36 : decode cX2_init 36 = .ok (.putfield 30, 3) := by decide +kernel
theorem dX2_init_39 : decode cX2_init 39 = .ok (.aload_n 0, 1) := by decide +kernel
theorem dX2_init_40 : decode cX2_init 40 = .ok (.iconst 0, 1) := by decide +kernel
theorem dX2_init_41 : decode cX2_init 41 = .ok (.putfield 33, 3) := by decide +kernel
theorem dX2_init_44 : decode cX2_init 44 = .ok (.aload_n 0, 1) := by decide +kernel
theorem dX2_init_45 : decode cX2_init 45 = .ok (.iconst 0, 1) := by decide +kernel
theorem dX2_init_46 : decode cX2_init 46 = .ok (.putfield 36, 3) := by decide +kernel
theorem dX2_init_49 : decode cX2_init 49 = .ok (.aload_n 0, 1) := by decide +kernel
theorem dX2_init_50 : decode cX2_init 50 = .ok (.iconst 4, 1) := by decide +kernel
theorem dX2_init_51 : decode cX2_init 51 = .ok (.newarray .int, 2) := by decide +kernel
theorem dX2_init_53 : decode cX2_init 53 = .ok (.putfield 39, 3) := by decide +kernel
theorem dX2_init_56 : decode cX2_init 56 = .ok (.aload_n 0, 1) := by decide +kernel
theorem dX2_init_57 : decode cX2_init 57 = .ok (.bipush 7, 2) := by decide +kernel
theorem dX2_init_59 : decode cX2_init 59 = .ok (.newarray .int, 2) := by decide +kernel
theorem dX2_init_61 : decode cX2_init 61 = .ok (.putfield 43, 3) := by decide +kernel
theorem dX2_init_64 : decode cX2_init 64 = .ok (.aload_n 0, 1) := by decide +kernel
theorem dX2_init_65 : decode cX2_init 65 = .ok (.bipush 28, 2) := by decide +kernel
theorem dX2_init_67 : decode cX2_init 67 = .ok (.newarray .int, 2) := by decide +kernel
theorem dX2_init_69 : decode cX2_init 69 = .ok (.putfield 46, 3) := by decide +kernel
theorem dX2_init_72 : decode cX2_init 72 = .ok (.aload_n 0, 1) := by decide +kernel
theorem dX2_init_73 : decode cX2_init 73 = .ok (.bipush 7, 2) := by decide +kernel
theorem dX2_init_75 : decode cX2_init 75 = .ok (.newarray .int, 2) := by decide +kernel
theorem dX2_init_77 : decode cX2_init 77 = .ok (.putfield 49, 3) := by decide +kernel
theorem dX2_init_80 : decode cX2_init 80 = .ok (.aload_n 0, 1) := by decide +kernel
theorem dX2_init_81 : decode cX2_init 81 = .ok (.bipush 8, 2) := by decide +kernel
theorem dX2_init_83 : decode cX2_init 83 = .ok (.newarray .int, 2) := by decide +kernel
theorem dX2_init_85 : decode cX2_init 85 = .ok (.putfield 52, 3) := by decide +kernel
theorem dX2_init_88 : decode cX2_init 88 = .ok (.aload_n 0, 1) := by decide +kernel
theorem dX2_init_89 : decode cX2_init 89 = .ok (.bipush 8, 2) := by decide +kernel
theorem dX2_init_91 : decode cX2_init 91 = .ok (.newarray .int, 2) := by decide +kernel
theorem dX2_init_93 : decode cX2_init 93 = .ok (.putfield 55, 3) := by decide +kernel
theorem dX2_init_96 : decode cX2_init 96 = .ok (.aload_n 0, 1) := by decide +kernel
theorem dX2_init_97 : decode cX2_init 97 = .ok (.new 58, 3) := by decide +kernel
theorem dX2_init_100 : decode cX2_init 100 = .ok (.dup, 1) := by decide +kernel
theorem dX2_init_101 : decode cX2_init 101 = .ok (.invokespecial 60, 3) := by decide +kernel
theorem dX2_init_104 : decode cX2_init 104 = .ok (.putfield 61, 3) := by decide +kernel
theorem dX2_init_107 : decode cX2_init 107 = .ok (.return_, 1) := by decide +kernel
theorem dX2_clear_0 : decode cX2_clear 0 = .ok (.aload_n 0, 1) := by decide +kernel
theorem dX2_clear_1 : decode cX2_clear 1 = .ok (.iconst 0, 1) := by decide +kernel
theorem dX2_clear_2 : decode cX2_clear 2 = .ok (.putfield 9, 3) := by decide +kernel
theorem dX2_clear_5 : decode cX2_clear 5 = .ok (.aload_n 0, 1) := by decide +kernel
theorem dX2_clear_6 : decode cX2_clear 6 = .ok (.iconst 0, 1) := by decide +kernel
theorem dX2_clear_7 : decode cX2_clear 7 = .ok (.putfield 15, 3) := by decide +kernel
theorem dX2_clear_10 : decode cX2_clear 10 = .ok (.aload_n 0, 1) := by decide +kernel
theorem dX2_clear_11 : decode cX2_clear 11 = .ok (.iconst 0, 1) := by decide +kernel
theorem dX2_clear_12 : decode cX2_clear 12 = .ok (.putfield 18, 3) := by decide +kernel
theorem dX2_clear_15 : decode cX2_clear 15 = .ok (.aload_n 0, 1) := by decide +kernel
theorem dX2_clear_16 : decode cX2_clear 16 = .ok (.iconst 0, 1) := by decide +kernel
theorem dX2_clear_17 : decode cX2_clear 17 = .ok (.putfield 21, 3) := by decide +kernel
theorem dX2_clear_20 : decode cX2_clear 20 = .ok (.aload_n 0, 1) := by decide +kernel
theorem dX2_clear_21 : decode cX2_clear 21 = .ok (.iconst 0, 1) := by decide +kernel
theorem dX2_clear_22 : decode cX2_clear 22 = .ok (.putfield 24, 3) := by decide +kernel
theorem dX2_clear_25 : decode cX2_clear 25 = .ok (.aload_n 0, 1) := by decide +kernel
theorem dX2_clear_26 : decode cX2_clear 26 = .ok (.iconst 0, 1) := by decide +kernel
theorem dX2_clear_27 : decode cX2_clear 27 = .ok (.putfield 27, 3) := by decide +kernel
theorem dX2_clear_30 : decode cX2_clear 30 = .ok (.aload_n 0, 1) := by decide +kernel
theorem dX2_clear_31 : decode cX2_clear 31 = .ok (.iconst 0, 1) := by decide +kernel
theorem dX2_clear_32 : decode cX2_clear 32 = .ok (.putfield 30, 3) := by decide +kernel
theorem dX2_clear_35 : decode cX2_clear 35 = .ok (.aload_n 0, 1) := by decide +kernel
theorem dX2_clear_36 : decode cX2_clear 36 = .ok (.iconst 0, 1) := by decide +kernel
theorem dX2_clear_37 : decode cX2_clear 37 = .ok (.putfield 33, 3) := by decide +kernel
theorem dX2_clear_40 : decode cX2_clear 40 = .ok (.aload_n 0, 1) := by decide +kernel
theorem dX2_clear_41 : decode cX2_clear 41 = .ok (.iconst 0, 1) := by decide +kernel
theorem dX2_clear_42 : decode cX2_clear 42 = .ok (.putfield 36, 3) := by decide +kernel
theorem dX2_clear_45 : decode cX2_clear 45 = .ok (.aload_n 0, 1) := by decide +kernel
theorem dX2_clear_46 : decode cX2_clear 46 = .ok (.getfield 43, 3) := by decide +kernel
theorem dX2_clear_49 : decode cX2_clear 49 = .ok (.iconst 0, 1) := by decide +kernel
theorem dX2_clear_50 : decode cX2_clear 50 = .ok (.invokestatic 65, 3) := by decide +kernel
theorem dX2_clear_53 : decode cX2_clear 53 = .ok (.aload_n 0, 1) := by decide +kernel
theorem dX2_clear_54 : decode cX2_clear 54 = .ok (.getfield 49, 3) := by decide +kernel
theorem dX2_clear_57 : decode cX2_clear 57 = .ok (.iconst 0, 1) := by decide +kernel
theorem dX2_clear_58 : decode cX2_clear 58 = .ok (.invokestatic 65, 3) := by decide +kernel
theorem dX2_clear_61 : decode cX2_clear 61 = .ok (.aload_n 0, 1) := by decide +kernel
theorem dX2_clear_62 : decode cX2_clear 62 = .ok (.getfield 61, 3) := by decide +kernel
theorem dX2_clear_65 : decode cX2_clear 65 = .ok (.invokevirtual 71, 3) := by decide +kernel
theorem dX2_clear_68 : decode cX2_clear 68 = .ok (.return_, 1) := by decide +kernel
theorem dX2_copyFrom_0 : decode cX2_copyFrom 0 = .ok (.aload_n 0, 1) := by decide +kernel
theorem dX2_copyFrom_1 : decode cX2_copyFrom 1 = .ok (.aload_n 1, 1) := by decide +kernel
theorem dX2_copyFrom_2 : decode cX2_copyFrom 2 = .ok (.getfield 9, 3) := by decide +kernel
theorem dX2_copyFrom_5 : decode cX2_copyFrom 5 = .ok (.putfield 9, 3) := by decide +kernel
theorem dX2_copyFrom_8 : decode cX2_copyFrom 8 = .ok (.aload_n 0, 1) := by decide +kernel
theorem dX2_copyFrom_9 : decode cX2_copyFrom 9 = .ok (.aload_n 1, 1) := by decide +kernel
theorem dX2_copyFrom_10 : decode cX2_copyFrom 10 = .ok (.getfield 15, 3) := by decide +kernel
theorem dX2_copyFrom_13 : decode cX2_copyFrom 13 = .ok (.putfield 15, 3) := by decide +kernel
theorem dX2_copyFrom_16 : decode cX2_copyFrom 16 = .ok (.aload_n 0, 1) := by decide +kernel
theorem dX2_copyFrom_17 : decode cX2_copyFrom 17 = .ok (.aload_n 1, 1) := by decide +kernel
theorem dX2_copyFrom_18 : decode cX2_copyFrom 18 = .ok (.getfield 18, 3) := by decide +kernel
theorem dX2_copyFrom_21 : decode cX2_copyFrom 21 = .ok (.putfield 18, 3) := by decide +kernel
theorem dX2_copyFrom_24 : decode cX2_copyFrom 24 = .ok (.aload_n 0, 1) := by decide +kernel
theorem dX2_copyFrom_25 : decode cX2_copyFrom 25 = .ok (.aload_n 1, 1) := by decide +kernel
theorem dX2_copyFrom_26 : decode cX2_copyFrom 26 = .ok (.getfield 21, 3) := by decide +kernel
theorem dX2_copyFrom_29 : decode cX2_copyFrom 29 = .ok (.putfield 21, 3) := by decide +kernel
theorem dX2_copyFrom_32 : decode cX2_copyFrom 32 = .ok (.aload_n 0, 1) := by decide +kernel
theorem dX2_copyFrom_33 : decode cX2_copyFrom 33 = .ok (.aload_n 1, 1) := by decide +kernel
theorem dX2_copyFrom_34 : decode cX2_copyFrom 34 = .ok (.getfield 24, 3) := by decide +kernel
theorem dX2_copyFrom_37 : decode cX2_copyFrom 37 = .ok (.putfield 24, 3) := by decide +kernel
theorem dX2_copyFrom_40 : decode cX2_copyFrom 40 = .ok (.aload_n 0, 1) := by decide +kernel
theorem dX2_copyFrom_41 : decode cX2_copyFrom 41 = .ok (.aload_n 1, 1) := by decide +kernel
theorem dX2_copyFrom_42 : decode cX2_copyFrom 42 = .ok (.getfield 27, 3) := by decide +kernel
theorem dX2_copyFrom_45 : decode cX2_copyFrom 45 = .ok (.putfield 27, 3) := by decide +kernel
theorem dX2_copyFrom_48 : decode cX2_copyFrom 48 = .ok (.aload_n 0, 1) := by decide +kernel
theorem dX2_copyFrom_49 : decode cX2_copyFrom 49 = .ok (.aload_n 1, 1) := by decide +kernel
theorem dX2_copyFrom_50 : decode cX2_copyFrom 50 = .ok (.getfield 30, 3) := by decide +kernel
theorem dX2_copyFrom_53 : decode cX2_copyFrom 53 = .ok (.putfield 30, 3) := by decide +kernel
theorem dX2_copyFrom_56 : decode cX2_copyFrom 56 = .ok (.aload_n 0, 1) := by decide +kernel
theorem dX2_copyFrom_57 : decode cX2_copyFrom 57 = .ok (.aload_n 1, 1) := by decide +kernel
theorem dX2_copyFrom_58 : decode cX2_copyFrom 58 = .ok (.getfield 33, 3) := by decide +kernel
theorem dX2_copyFrom_61 : decode cX2_copyFrom 61 = .ok (.putfield 33, 3) := by decide +kernel
theorem dX2_copyFrom_64 : decode cX2_copyFrom 64 = .ok (.aload_n 0, 1) := by decide +kernel
theorem dX2_copyFrom_65 : decode cX2_copyFrom 65 = .ok (.aload_n 1, 1) := by decide +kernel
theorem dX2_copyFrom_66 : decode cX2_copyFrom 66 = .ok (.getfield 36, 3) := by decide +kernel
theorem dX2_copyFrom_69 : decode cX2_copyFrom 69 = .ok (.putfield 36, 3) := by decide +kernel
theorem dX2_copyFrom_72 : decode cX2_copyFrom 72 = .ok (.aload_n 1, 1) := by decide +kernel
theorem dX2_copyFrom_73 : decode cX2_copyFrom 73 = .ok (.getfield 39, 3) := by decide +kernel
theorem dX2_copyFrom_76 : decode cX2_copyFrom 76 = .ok (.iconst 0, 1) := by decide +kernel
theorem dX2_copyFrom_77 : decode cX2_copyFrom 77 = .ok (.aload_n 0, 1) := by decide +kernel
theorem dX2_copyFrom_78 : decode cX2_copyFrom 78 = .ok (.getfield 39, 3) := by decide +kernel
theorem dX2_copyFrom_81 : decode cX2_copyFrom 81 = .ok (.iconst 0, 1) := by decide +kernel
theorem dX2_copyFrom_82 : decode cX2_copyFrom 82 = .ok (.iconst 4, 1) := by decide +kernel
theorem dX2_copyFrom_83 : decode cX2_copyFrom 83 = .ok (.invokestatic 74, 3) := by decide +kernel
theorem dX2_copyFrom_86 : decode cX2_copyFrom 86 = .ok (.aload_n 1, 1) := by decide +kernel
theorem dX2_copyFrom_87 : decode cX2_copyFrom 87 = .ok (.getfield 43, 3) := by decide +kernel
theorem dX2_copyFrom_90 : decode cX2_copyFrom 90 = .ok (.iconst 0, 1) := by decide +kernel
theorem dX2_copyFrom_91 : decode cX2_copyFrom 91 = .ok (.aload_n 0, 1) := by decide +kernel
theorem dX2_copyFrom_92 : decode cX2_copyFrom 92 = .ok (.getfield 43, 3) := by decide +kernel
theorem dX2_copyFrom_95 : decode cX2_copyFrom 95 = .ok (.iconst 0, 1) := by decide +kernel
theorem dX2_copyFrom_96 : decode cX2_copyFrom 96 = .ok (.bipush 7, 2) := by decide +kernel
theorem dX2_copyFrom_98 : decode cX2_copyFrom 98 = .ok (.invokestatic 74, 3) := by decide +kernel
theorem dX2_copyFrom_101 : decode cX2_copyFrom 101 = .ok (.aload_n 1, 1) := by decide +kernel
theorem dX2_copyFrom_102 : decode cX2_copyFrom 102 = .ok (.getfield 46, 3) := by decide +kernel
theorem dX2_copyFrom_105 : decode cX2_copyFrom 105 = .ok (.iconst 0, 1) := by decide +kernel
theorem dX2_copyFrom_106 : decode cX2_copyFrom 106 = .ok (.aload_n 0, 1) := by decide +kernel
theorem dX2_copyFrom_107 : decode cX2_copyFrom 107 = .ok (.getfield 46, 3) := by decide +kernel
theorem dX2_copyFrom_110 : decode cX2_copyFrom 110 = .ok (.iconst 0, 1) := by decide +kernel
theorem dX2_copyFrom_111 : decode cX2_copyFrom 111 = .ok (.aload_n 0, 1) := by decide +kernel
theorem dX2_copyFrom_112 : decode cX2_copyFrom 112 = .ok (.getfield 46, 3) := by decide +kernel
theorem dX2_copyFrom_115 : decode cX2_copyFrom 115 = .ok (.arraylength, 1) := by decide +kernel
theorem dX2_copyFrom_116 : decode cX2_copyFrom 116 = .ok (.invokestatic 74, 3) := by decide +kernel
theorem dX2_copyFrom_119 : decode cX2_copyFrom 119 = .ok (.aload_n 1, 1) := by decide +kernel
theorem dX2_copyFrom_120 : decode cX2_copyFrom 120 = .ok (.getfield 49, 3) := by decide +kernel
theorem dX2_copyFrom_123 : decode cX2_copyFrom 123 = .ok (.iconst 0, 1) := by decide +kernel
theorem dX2_copyFrom_124 : decode cX2_copyFrom 124 = .ok (.aload_n 0, 1) := by decide +kernel
theorem dX2_copyFrom_125 : decode cX2_copyFrom 125 = .ok (.getfield 49, 3) := by decide +kernel
theorem dX2_copyFrom_128 : decode cX2_copyFrom 128 = .ok (.iconst 0, 1) := by decide +kernel
theorem dX2_copyFrom_129 : decode cX2_copyFrom 129 = .ok (.bipush 7, 2) := by decide +kernel
theorem dX2_copyFrom_131 : decode cX2_copyFrom 131 = .ok (.invokestatic 74, 3) := by decide +kernel
theorem dX2_copyFrom_134 : decode cX2_copyFrom 134 = .ok (.aload_n 1, 1) := by decide +kernel
theorem dX2_copyFrom_135 : decode cX2_copyFrom 135 = .ok (.getfield 52, 3) := by decide +kernel
theorem dX2_copyFrom_138 : decode cX2_copyFrom 138 = .ok (.iconst 0, 1) := by decide +kernel
theorem dX2_copyFrom_139 : decode cX2_copyFrom 139 = .ok (.aload_n 0, 1) := by decide +kernel
theorem dX2_copyFrom_140 : decode cX2_copyFrom 140 = .ok (.getfield 52, 3) := by decide +kernel
theorem dX2_copyFrom_143 : decode cX2_copyFrom 143 = .ok (.iconst 0, 1) := by decide +kernel
theorem dX2_copyFrom_144 : decode cX2_copyFrom 144 = .ok (.bipush 8, 2) := by decide +kernel
theorem dX2_copyFrom_146 : decode cX2_copyFrom 146 = .ok (.invokestatic 74, 3) := by decide +kernel
theorem dX2_copyFrom_149 : decode cX2_copyFrom 149 = .ok (.aload_n 1, 1) := by decide +kernel
theorem dX2_copyFrom_150 : decode cX2_copyFrom 150 = .ok (.getfield 55, 3) := by decide +kernel
theorem dX2_copyFrom_153 : decode cX2_copyFrom 153 = .ok (.iconst 0, 1) := by decide +kernel
theorem dX2_copyFrom_154 : decode cX2_copyFrom 154 = .ok (.aload_n 0, 1) := by decide +kernel
theorem dX2_copyFrom_155 : decode cX2_copyFrom 155 = .ok (.getfield 55, 3) := by decide +kernel
theorem dX2_copyFrom_158 : decode cX2_copyFrom 158 = .ok (.iconst 0, 1) := by decide +kernel
theorem dX2_copyFrom_159 : decode cX2_copyFrom 159 = .ok (.bipush 8, 2) := by decide +kernel
theorem dX2_copyFrom_161 : decode cX2_copyFrom 161 = .ok (.invokestatic 74, 3) := by decide +kernel
theorem dX2_copyFrom_164 : decode cX2_copyFrom 164 = .ok (.aload_n 0, 1) := by decide +kernel
theorem dX2_copyFrom_165 : decode cX2_copyFrom 165 = .ok (.getfield 61, 3) := by decide +kernel
theorem dX2_copyFrom_168 : decode cX2_copyFrom 168 = .ok (.aload_n 1, 1) := by decide +kernel
theorem dX2_copyFrom_169 : decode cX2_copyFrom 169 = .ok (.getfield 61, 3) := by decide +kernel
theorem dX2_copyFrom_172 : decode cX2_copyFrom 172 = .ok (.invokevirtual 80, 3) := by decide +kernel
theorem dX2_copyFrom_175 : decode cX2_copyFrom 175 = .ok (.return_, 1) := by decide +kernel
theorem dX2_isTold_0 : decode cX2_isTold 0 = .ok (.aload_n 0, 1) := by decide +kernel
theorem dX2_isTold_1 : decode cX2_isTold 1 = .ok (.getfield 9, 3) := by decide +kernel
theorem dX2_isTold_4 : decode cX2_isTold 4 = .ok (.ifCond .le 7, 3) := by decide +kernel
theorem dX2_isTold_11 : decode cX2_isTold 11 = .ok (.iconst 0, 1) := by decide +kernel
theorem dX2_isTold_12 : decode cX2_isTold 12 = .ok (.ireturn, 1) := by decide +kernel
theorem dX2_hasInn_0 : decode cX2_hasInn 0 = .ok (.iload_n 1, 1) := by decide +kernel
theorem dX2_hasInn_1 : decode cX2_hasInn 1 = .ok (.ifCond .lt 15, 3) := by decide +kernel
theorem dX2_hasInn_4 : decode cX2_hasInn 4 = .ok (.iload_n 1, 1) := by decide +kernel
theorem dX2_hasInn_5 : decode cX2_hasInn 5 = .ok (.aload_n 0, 1) := by decide +kernel
theorem dX2_hasInn_6 : decode cX2_hasInn 6 = .ok (.getfield 24, 3) := by decide +kernel
theorem dX2_hasInn_9 : decode cX2_hasInn 9 = .ok (.if_icmp .ge 7, 3) := by decide +kernel
theorem dX2_hasInn_16 : decode cX2_hasInn 16 = .ok (.iconst 0, 1) := by decide +kernel
theorem dX2_hasInn_17 : decode cX2_hasInn 17 = .ok (.ireturn, 1) := by decide +kernel
theorem dX2_hasPost_0 : decode cX2_hasPost 0 = .ok (.iload_n 1, 1) := by decide +kernel
theorem dX2_hasPost_1 : decode cX2_hasPost 1 = .ok (.ifCond .lt 15, 3) := by decide +kernel
theorem dX2_hasPost_4 : decode cX2_hasPost 4 = .ok (.iload_n 1, 1) := by decide +kernel
theorem dX2_hasPost_5 : decode cX2_hasPost 5 = .ok (.aload_n 0, 1) := by decide +kernel
theorem dX2_hasPost_6 : decode cX2_hasPost 6 = .ok (.getfield 27, 3) := by decide +kernel
theorem dX2_hasPost_9 : decode cX2_hasPost 9 = .ok (.if_icmp .ge 7, 3) := by decide +kernel
theorem dX2_hasPost_16 : decode cX2_hasPost 16 = .ok (.iconst 0, 1) := by decide +kernel
theorem dX2_hasPost_17 : decode cX2_hasPost 17 = .ok (.ireturn, 1) := by decide +kernel
theorem dX2_hasPlace_0 : decode cX2_hasPlace 0 = .ok (.iload_n 1, 1) := by decide +kernel
theorem dX2_hasPlace_1 : decode cX2_hasPlace 1 = .ok (.bipush 10, 2) := by decide +kernel
theorem dX2_hasPlace_3 : decode cX2_hasPlace 3 = .ok (.if_icmp .ge 11, 3) := by decide +kernel
theorem dX2_hasPlace_6 : decode cX2_hasPlace 6 = .ok (.aload_n 0, 1) := by decide +kernel
theorem dX2_hasPlace_7 : decode cX2_hasPlace 7 = .ok (.iload_n 1, 1) := by decide +kernel
theorem dX2_hasPlace_8 : decode cX2_hasPlace 8 = .ok (.invokevirtual 84, 3) := by decide +kernel
theorem dX2_hasPlace_11 : decode cX2_hasPlace 11 = .ok (.goto 11, 3) := by decide +kernel
theorem dX2_hasPlace_14 : decode cX2_hasPlace 14 = .ok (.aload_n 0, 1) := by decide +kernel
theorem dX2_hasPlace_15 : decode cX2_hasPlace 15 = .ok (.iload_n 1, 1) := by decide +kernel
theorem dX2_hasPlace_16 : decode cX2_hasPlace 16 = .ok (.bipush 10, 2) := by decide +kernel
theorem dX2_hasPlace_18 : decode cX2_hasPlace 18 = .ok (.isub, 1) := by decide +kernel
theorem dX2_hasPlace_19 : decode cX2_hasPlace 19 = .ok (.invokevirtual 88, 3) := by decide +kernel
theorem dX2_hasPlace_22 : decode cX2_hasPlace 22 = .ok (.ireturn, 1) := by decide +kernel
theorem dX2_hasWalker_0 : decode cX2_hasWalker 0 = .ok (.iload_n 1, 1) := by decide +kernel
theorem dX2_hasWalker_1 : decode cX2_hasWalker 1 = .ok (.ifCond .lt 15, 3) := by decide +kernel
theorem dX2_hasWalker_4 : decode cX2_hasWalker 4 = .ok (.iload_n 1, 1) := by decide +kernel
theorem dX2_hasWalker_5 : decode cX2_hasWalker 5 = .ok (.aload_n 0, 1) := by decide +kernel
theorem dX2_hasWalker_6 : decode cX2_hasWalker 6 = .ok (.getfield 36, 3) := by decide +kernel
theorem dX2_hasWalker_9 : decode cX2_hasWalker 9 = .ok (.if_icmp .ge 7, 3) := by decide +kernel
theorem dX2_hasWalker_16 : decode cX2_hasWalker 16 = .ok (.iconst 0, 1) := by decide +kernel
theorem dX2_hasWalker_17 : decode cX2_hasWalker 17 = .ok (.ireturn, 1) := by decide +kernel
theorem dX2_hasHour_0 : decode cX2_hasHour 0 = .ok (.aload_n 0, 1) := by decide +kernel
theorem dX2_hasHour_1 : decode cX2_hasHour 1 = .ok (.invokevirtual 91, 3) := by decide +kernel
theorem dX2_hasHour_4 : decode cX2_hasHour 4 = .ok (.ifCond .eq 19, 3) := by decide +kernel
theorem dX2_hasHour_23 : decode cX2_hasHour 23 = .ok (.iconst 0, 1) := by decide +kernel
theorem dX2_hasHour_24 : decode cX2_hasHour 24 = .ok (.ireturn, 1) := by decide +kernel
theorem dX2_hasHourAhead_0 : decode cX2_hasHourAhead 0 = .ok (.aload_n 0, 1) := by decide +kernel
theorem dX2_hasHourAhead_1 : decode cX2_hasHourAhead 1 = .ok (.iload_n 1, 1) := by decide +kernel
theorem dX2_hasHourAhead_2 : decode cX2_hasHourAhead 2 = .ok (.invokevirtual 95, 3) := by decide +kernel
theorem dX2_hasHourAhead_5 : decode cX2_hasHourAhead 5 = .ok (.ifCond .eq 15, 3) := by decide +kernel
theorem dX2_hasHourAhead_20 : decode cX2_hasHourAhead 20 = .ok (.iconst 0, 1) := by decide +kernel
theorem dX2_hasHourAhead_21 : decode cX2_hasHourAhead 21 = .ok (.ireturn, 1) := by decide +kernel
theorem dX3_init_0 : decode cX3_init 0 = .ok (.aload_n 0, 1) := by decide +kernel
theorem dX3_init_1 : decode cX3_init 1 = .ok (.invokespecial 3, 3) := by decide +kernel
theorem dX3_init_4 : decode cX3_init 4 = .ok (.aload_n 0, 1) := by decide +kernel
theorem dX3_init_5 : decode cX3_init 5 = .ok (.bipush 7, 2) := by decide +kernel
theorem dX3_init_7 : decode cX3_init 7 = .ok (.newarray .int, 2) := by decide +kernel
theorem dX3_init_9 : decode cX3_init 9 = .ok (.putfield 9, 3) := by decide +kernel
theorem dX3_init_12 : decode cX3_init 12 = .ok (.aload_n 0, 1) := by decide +kernel
theorem dX3_init_13 : decode cX3_init 13 = .ok (.iconst 0, 1) := by decide +kernel
theorem dX3_init_14 : decode cX3_init 14 = .ok (.putfield 15, 3) := by decide +kernel
theorem dX3_init_17 : decode cX3_init 17 = .ok (.aload_n 0, 1) := by decide +kernel
theorem dX3_init_18 : decode cX3_init 18 = .ok (.aload_n 1, 1) := by decide +kernel
theorem dX3_init_19 : decode cX3_init 19 = .ok (.putfield 19, 3) := by decide +kernel
theorem dX3_init_22 : decode cX3_init 22 = .ok (.return_, 1) := by decide +kernel
theorem dX4_init_0 : decode cX4_init 0 = .ok (.aload_n 0, 1) := by decide +kernel
theorem dX4_init_1 : decode cX4_init 1 = .ok (.invokespecial 3, 3) := by decide +kernel
theorem dX4_init_4 : decode cX4_init 4 = .ok (.aload_n 0, 1) := by decide +kernel
theorem dX4_init_5 : decode cX4_init 5 = .ok (.iconst 0, 1) := by decide +kernel
theorem dX4_init_6 : decode cX4_init 6 = .ok (.putfield 9, 3) := by decide +kernel
theorem dX4_init_9 : decode cX4_init 9 = .ok (.aload_n 0, 1) := by decide +kernel
theorem dX4_init_10 : decode cX4_init 10 = .ok (.bipush 127, 2) := by decide +kernel
theorem dX4_init_12 : decode cX4_init 12 = .ok (.putfield 15, 3) := by decide +kernel
theorem dX4_init_15 : decode cX4_init 15 = .ok (.aload_n 0, 1) := by decide +kernel
theorem dX4_init_16 : decode cX4_init 16 = .ok (.iconst 0, 1) := by decide +kernel
theorem dX4_init_17 : decode cX4_init 17 = .ok (.putfield 18, 3) := by decide +kernel
theorem dX4_init_20 : decode cX4_init 20 = .ok (.aload_n 0, 1) := by decide +kernel
theorem dX4_init_21 : decode cX4_init 21 = .ok (.bipush 8, 2) := by decide +kernel
theorem dX4_init_23 : decode cX4_init 23 = .ok (.newarray .int, 2) := by decide +kernel
theorem dX4_init_25 : decode cX4_init 25 = .ok (.putfield 21, 3) := by decide +kernel
theorem dX4_init_28 : decode cX4_init 28 = .ok (.aload_n 0, 1) := by decide +kernel
theorem dX4_init_29 : decode cX4_init 29 = .ok (.sipush 136, 3) := by decide +kernel
theorem dX4_init_32 : decode cX4_init 32 = .ok (.newarray .int, 2) := by decide +kernel
theorem dX4_init_34 : decode cX4_init 34 = .ok (.putfield 25, 3) := by decide +kernel
theorem dX4_init_37 : decode cX4_init 37 = .ok (.aload_n 0, 1) := by decide +kernel
theorem dX4_init_38 : decode cX4_init 38 = .ok (.bipush 119, 2) := by decide +kernel
theorem dX4_init_40 : decode cX4_init 40 = .ok (.newarray .int, 2) := by decide +kernel
theorem dX4_init_42 : decode cX4_init 42 = .ok (.putfield 28, 3) := by decide +kernel
theorem dX4_init_45 : decode cX4_init 45 = .ok (.aload_n 0, 1) := by decide +kernel
theorem dX4_init_46 : decode cX4_init 46 = .ok (.sipush 136, 3) := by decide +kernel
theorem dX4_init_49 : decode cX4_init 49 = .ok (.newarray .int, 2) := by decide +kernel
theorem dX4_init_51 : decode cX4_init 51 = .ok (.putfield 31, 3) := by decide +kernel
theorem dX4_init_54 : decode cX4_init 54 = .ok (.aload_n 0, 1) := by decide +kernel
theorem dX4_init_55 : decode cX4_init 55 = .ok (.iconst 4, 1) := by decide +kernel
theorem dX4_init_56 : decode cX4_init 56 = .ok (.newarray .int, 2) := by decide +kernel
theorem dX4_init_58 : decode cX4_init 58 = .ok (.putfield 34, 3) := by decide +kernel
theorem dX4_init_61 : decode cX4_init 61 = .ok (.aload_n 0, 1) := by decide +kernel
theorem dX4_init_62 : decode cX4_init 62 = .ok (.aload_n 1, 1) := by decide +kernel
theorem dX4_init_63 : decode cX4_init 63 = .ok (.putfield 37, 3) := by decide +kernel
theorem dX4_init_66 : decode cX4_init 66 = .ok (.return_, 1) := by decide +kernel
theorem dX4_prepare_0 : decode cX4_prepare 0 = .ok (.aload_n 0, 1) := by decide +kernel
theorem dX4_prepare_1 : decode cX4_prepare 1 = .ok (.aload_n 0, 1) := by decide +kernel
theorem dX4_prepare_2 : decode cX4_prepare 2 = .ok (.getfield 37, 3) := by decide +kernel
theorem dX4_prepare_5 : decode cX4_prepare 5 = .ok (.getfield 41, 3) := by decide +kernel
theorem dX4_prepare_8 : decode cX4_prepare 8 = .ok (.putfield 9, 3) := by decide +kernel
theorem dX4_prepare_11 : decode cX4_prepare 11 = .ok (.aload_n 0, 1) := by decide +kernel
theorem dX4_prepare_12 : decode cX4_prepare 12 = .ok (.bipush 127, 2) := by decide +kernel
theorem dX4_prepare_14 : decode cX4_prepare 14 = .ok (.putfield 15, 3) := by decide +kernel
theorem dX4_prepare_17 : decode cX4_prepare 17 = .ok (.aload_n 0, 1) := by decide +kernel
theorem dX4_prepare_18 : decode cX4_prepare 18 = .ok (.iconst 0, 1) := by decide +kernel
theorem dX4_prepare_19 : decode cX4_prepare 19 = .ok (.putfield 18, 3) := by decide +kernel
theorem dX4_prepare_22 : decode cX4_prepare 22 = .ok (.aload_n 0, 1) := by decide +kernel
theorem dX4_prepare_23 : decode cX4_prepare 23 = .ok (.getfield 37, 3) := by decide +kernel
theorem dX4_prepare_26 : decode cX4_prepare 26 = .ok (.getfield 44, 3) := by decide +kernel
theorem dX4_prepare_29 : decode cX4_prepare 29 = .ok (.iconst 0, 1) := by decide +kernel
theorem dX4_prepare_30 : decode cX4_prepare 30 = .ok (.aload_n 0, 1) := by decide +kernel
theorem dX4_prepare_31 : decode cX4_prepare 31 = .ok (.getfield 21, 3) := by decide +kernel
theorem dX4_prepare_34 : decode cX4_prepare 34 = .ok (.iconst 0, 1) := by decide +kernel
theorem dX4_prepare_35 : decode cX4_prepare 35 = .ok (.bipush 8, 2) := by decide +kernel
theorem dX4_prepare_37 : decode cX4_prepare 37 = .ok (.invokestatic 45, 3) := by decide +kernel
theorem dX4_prepare_40 : decode cX4_prepare 40 = .ok (.aload_n 0, 1) := by decide +kernel
theorem dX4_prepare_41 : decode cX4_prepare 41 = .ok (.getfield 37, 3) := by decide +kernel
theorem dX4_prepare_44 : decode cX4_prepare 44 = .ok (.getfield 51, 3) := by decide +kernel
theorem dX4_prepare_47 : decode cX4_prepare 47 = .ok (.iconst 0, 1) := by decide +kernel
theorem dX4_prepare_48 : decode cX4_prepare 48 = .ok (.aload_n 0, 1) := by decide +kernel
theorem dX4_prepare_49 : decode cX4_prepare 49 = .ok (.getfield 28, 3) := by decide +kernel
theorem dX4_prepare_52 : decode cX4_prepare 52 = .ok (.iconst 0, 1) := by decide +kernel
theorem dX4_prepare_53 : decode cX4_prepare 53 = .ok (.bipush 7, 2) := by decide +kernel
theorem dX4_prepare_55 : decode cX4_prepare 55 = .ok (.invokestatic 45, 3) := by decide +kernel
theorem dX4_prepare_58 : decode cX4_prepare 58 = .ok (.return_, 1) := by decide +kernel
theorem dX4_run_0 : decode cX4_run 0 = .ok (.aload_n 0, 1) := by decide +kernel
theorem dX4_run_1 : decode cX4_run 1 = .ok (.invokevirtual 54, 3) := by decide +kernel
theorem dX4_run_4 : decode cX4_run 4 = .ok (.iconst 0, 1) := by decide +kernel
theorem dX4_run_5 : decode cX4_run 5 = .ok (.istore_n 1, 1) := by decide +kernel
theorem dX4_run_6 : decode cX4_run 6 = .ok (.iload_n 1, 1) := by decide +kernel
theorem dX4_run_7 : decode cX4_run 7 = .ok (.aload_n 0, 1) := by decide +kernel
theorem dX4_run_8 : decode cX4_run 8 = .ok (.getfield 37, 3) := by decide +kernel
theorem dX4_run_11 : decode cX4_run 11 = .ok (.getfield 57, 3) := by decide +kernel
theorem dX4_run_14 : decode cX4_run 14 = .ok (.if_icmp .ge 14, 3) := by decide +kernel
theorem dX4_run_28 : decode cX4_run 28 = .ok (.return_, 1) := by decide +kernel
theorem dX4_begin_0 : decode cX4_begin 0 = .ok (.iconst 0, 1) := by decide +kernel
theorem dX4_begin_1 : decode cX4_begin 1 = .ok (.istore_n 1, 1) := by decide +kernel
theorem dX4_begin_2 : decode cX4_begin 2 = .ok (.iload_n 1, 1) := by decide +kernel
theorem dX4_begin_3 : decode cX4_begin 3 = .ok (.aload_n 0, 1) := by decide +kernel
theorem dX4_begin_4 : decode cX4_begin 4 = .ok (.getfield 37, 3) := by decide +kernel
theorem dX4_begin_7 : decode cX4_begin 7 = .ok (.getfield 64, 3) := by decide +kernel
theorem dX4_begin_10 : decode cX4_begin 10 = .ok (.if_icmp .ge 37, 3) := by decide +kernel
theorem dX4_begin_47 : decode cX4_begin 47 = .ok (.return_, 1) := by decide +kernel
theorem dX5_init_0 : decode cX5_init 0 = .ok (.aload_n 0, 1) := by decide +kernel
theorem dX5_init_1 : decode cX5_init 1 = .ok (.invokespecial 3, 3) := by decide +kernel
theorem dX5_init_4 : decode cX5_init 4 = .ok (.aload_n 0, 1) := by decide +kernel
theorem dX5_init_5 : decode cX5_init 5 = .ok (.bipush 60, 2) := by decide +kernel
theorem dX5_init_7 : decode cX5_init 7 = .ok (.newarray .long, 2) := by decide +kernel
theorem dX5_init_9 : decode cX5_init 9 = .ok (.putfield 9, 3) := by decide +kernel
theorem dX5_init_12 : decode cX5_init 12 = .ok (.aload_n 0, 1) := by decide +kernel
theorem dX5_init_13 : decode cX5_init 13 = .ok (.iconst 0, 1) := by decide +kernel
theorem dX5_init_14 : decode cX5_init 14 = .ok (.putfield 15, 3) := by decide +kernel
theorem dX5_init_17 : decode cX5_init 17 = .ok (.aload_n 0, 1) := by decide +kernel
theorem dX5_init_18 : decode cX5_init 18 = .ok (.iconst 0, 1) := by decide +kernel
theorem dX5_init_19 : decode cX5_init 19 = .ok (.putfield 19, 3) := by decide +kernel
theorem dX5_init_22 : decode cX5_init 22 = .ok (.return_, 1) := by decide +kernel
theorem dX5_begin_0 : decode cX5_begin 0 = .ok (.aload_n 0, 1) := by decide +kernel
theorem dX5_begin_1 : decode cX5_begin 1 = .ok (.iload_n 1, 1) := by decide +kernel
theorem dX5_begin_2 : decode cX5_begin 2 = .ok (.putfield 15, 3) := by decide +kernel
theorem dX5_begin_5 : decode cX5_begin 5 = .ok (.aload_n 0, 1) := by decide +kernel
theorem dX5_begin_6 : decode cX5_begin 6 = .ok (.iload_n 2, 1) := by decide +kernel
theorem dX5_begin_7 : decode cX5_begin 7 = .ok (.putfield 19, 3) := by decide +kernel
theorem dX5_begin_10 : decode cX5_begin 10 = .ok (.aload_n 0, 1) := by decide +kernel
theorem dX5_begin_11 : decode cX5_begin 11 = .ok (.getfield 9, 3) := by decide +kernel
theorem dX5_begin_14 : decode cX5_begin 14 = .ok (.lconst 0, 1) := by decide +kernel
theorem dX5_begin_15 : decode cX5_begin 15 = .ok (.invokestatic 22, 3) := by decide +kernel
theorem dX5_begin_18 : decode cX5_begin 18 = .ok (.return_, 1) := by decide +kernel
theorem dX6_init_0 : decode cX6_init 0 = .ok (.aload_n 0, 1) := by decide +kernel
theorem dX6_init_1 : decode cX6_init 1 = .ok (.invokespecial 3, 3) := by decide +kernel
theorem dX6_init_4 : decode cX6_init 4 = .ok (.aload_n 0, 1) := by decide +kernel
theorem dX6_init_5 : decode cX6_init 5 = .ok (.sipush 800, 3) := by decide +kernel
theorem dX6_init_8 : decode cX6_init 8 = .ok (.newarray .byte, 2) := by decide +kernel
theorem dX6_init_10 : decode cX6_init 10 = .ok (.putfield 9, 3) := by decide +kernel
theorem dX6_init_13 : decode cX6_init 13 = .ok (.aload_n 0, 1) := by decide +kernel
theorem dX6_init_14 : decode cX6_init 14 = .ok (.iconst 0, 1) := by decide +kernel
theorem dX6_init_15 : decode cX6_init 15 = .ok (.putfield 15, 3) := by decide +kernel
theorem dX6_init_18 : decode cX6_init 18 = .ok (.aload_n 0, 1) := by decide +kernel
theorem dX6_init_19 : decode cX6_init 19 = .ok (.iconst 0, 1) := by decide +kernel
theorem dX6_init_20 : decode cX6_init 20 = .ok (.putfield 19, 3) := by decide +kernel
theorem dX6_init_23 : decode cX6_init 23 = .ok (.aload_n 0, 1) := by decide +kernel
theorem dX6_init_24 : decode cX6_init 24 = .ok (.iconst (-1), 1) := by decide +kernel
theorem dX6_init_25 : decode cX6_init 25 = .ok (.putfield 22, 3) := by decide +kernel
theorem dX6_init_28 : decode cX6_init 28 = .ok (.aload_n 0, 1) := by decide +kernel
theorem dX6_init_29 : decode cX6_init 29 = .ok (.iconst 0, 1) := by decide +kernel
theorem dX6_init_30 : decode cX6_init 30 = .ok (.putfield 25, 3) := by decide +kernel
theorem dX6_init_33 : decode cX6_init 33 = .ok (.aload_n 0, 1) := by decide +kernel
theorem dX6_init_34 : decode cX6_init 34 = .ok (.iconst 0, 1) := by decide +kernel
theorem dX6_init_35 : decode cX6_init 35 = .ok (.putfield 28, 3) := by decide +kernel
theorem dX6_init_38 : decode cX6_init 38 = .ok (.aload_n 0, 1) := by decide +kernel
theorem dX6_init_39 : decode cX6_init 39 = .ok (.iconst 0, 1) := by decide +kernel
theorem dX6_init_40 : decode cX6_init 40 = .ok (.putfield 31, 3) := by decide +kernel
theorem dX6_init_43 : decode cX6_init 43 = .ok (.aload_n 0, 1) := by decide +kernel
theorem dX6_init_44 : decode cX6_init 44 = .ok (.iconst 0, 1) := by decide +kernel
theorem dX6_init_45 : decode cX6_init 45 = .ok (.putfield 34, 3) := by decide +kernel
theorem dX6_init_48 : decode cX6_init 48 = .ok (.return_, 1) := by decide +kernel
theorem dX6_append_0 : decode cX6_append 0 = .ok (.bipush 24, 2) := by decide +kernel
theorem dX6_append_2 : decode cX6_append 2 = .ok (.istore_n 2, 1) := by decide +kernel
theorem dX6_append_3 : decode cX6_append 3 = .ok (.iload_n 2, 1) := by decide +kernel
theorem dX6_append_4 : decode cX6_append 4 = .ok (.ifCond .lt 42, 3) := by decide +kernel
theorem dX6_append_7 : decode cX6_append 7 = .ok (.aload_n 0, 1) := by decide +kernel
theorem dX6_append_8 : decode cX6_append 8 = .ok (.getfield 15, 3) := by decide +kernel
theorem dX6_append_11 : decode cX6_append 11 = .ok (.sipush 800, 3) := by decide +kernel
theorem dX6_append_14 : decode cX6_append 14 = .ok (.if_icmp .ge 32, 3) := by decide +kernel
theorem dX6_append_17 : decode cX6_append 17 = .ok (.aload_n 0, 1) := by decide +kernel
theorem dX6_append_18 : decode cX6_append 18 = .ok (.getfield 9, 3) := by decide +kernel
theorem dX6_append_21 : decode cX6_append 21 = .ok (.aload_n 0, 1) := by decide +kernel
theorem dX6_append_22 : decode cX6_append 22 = .ok (.getfield 15, 3) := by decide +kernel
theorem dX6_append_25 : decode cX6_append 25 = .ok (.iload_n 1, 1) := by decide +kernel
theorem dX6_append_26 : decode cX6_append 26 = .ok (.iload_n 2, 1) := by decide +kernel
theorem dX6_append_27 : decode cX6_append 27 = .ok (.ishr, 1) := by decide +kernel
theorem dX6_append_28 : decode cX6_append 28 = .ok (.i2b, 1) := by decide +kernel
theorem dX6_append_29 : decode cX6_append 29 = .ok (.bastore, 1) := by decide +kernel
theorem dX6_append_30 : decode cX6_append 30 = .ok (.aload_n 0, 1) := by decide +kernel
theorem dX6_append_31 : decode cX6_append 31 = .ok (.dup, 1) := by decide +kernel
theorem dX6_append_32 : decode cX6_append 32 = .ok (.getfield 15, 3) := by decide +kernel
theorem dX6_append_35 : decode cX6_append 35 = .ok (.iconst 1, 1) := by decide +kernel
theorem dX6_append_36 : decode cX6_append 36 = .ok (.iadd, 1) := by decide +kernel
theorem dX6_append_37 : decode cX6_append 37 = .ok (.putfield 15, 3) := by decide +kernel
theorem dX6_append_40 : decode cX6_append 40 = .ok (.iinc 2 (-8), 3) := by decide +kernel
theorem dX6_append_43 : decode cX6_append 43 = .ok (.goto (-40), 3) := by decide +kernel
theorem dX6_append_46 : decode cX6_append 46 = .ok (.return_, 1) := by decide +kernel
theorem dX6_readInto_0 : decode cX6_readInto 0 = .ok (.aload_n 1, 1) := by decide +kernel
theorem dX6_readInto_1 : decode cX6_readInto 1 = .ok (.invokevirtual 37, 3) := by decide +kernel
theorem dX6_readInto_4 : decode cX6_readInto 4 = .ok (.aload_n 0, 1) := by decide +kernel
theorem dX6_readInto_5 : decode cX6_readInto 5 = .ok (.iconst 0, 1) := by decide +kernel
theorem dX6_readInto_6 : decode cX6_readInto 6 = .ok (.putfield 19, 3) := by decide +kernel
theorem dX6_readInto_9 : decode cX6_readInto 9 = .ok (.aload_n 0, 1) := by decide +kernel
theorem dX6_readInto_10 : decode cX6_readInto 10 = .ok (.iconst (-1), 1) := by decide +kernel
theorem dX6_readInto_11 : decode cX6_readInto 11 = .ok (.putfield 22, 3) := by decide +kernel
theorem dX6_readInto_14 : decode cX6_readInto 14 = .ok (.aload_n 0, 1) := by decide +kernel
theorem dX6_readInto_15 : decode cX6_readInto 15 = .ok (.iconst 0, 1) := by decide +kernel
theorem dX6_readInto_16 : decode cX6_readInto 16 = .ok (.putfield 31, 3) := by decide +kernel
theorem dX6_readInto_19 : decode cX6_readInto 19 = .ok (.aload_n 0, 1) := by decide +kernel
theorem dX6_readInto_20 : decode cX6_readInto 20 = .ok (.invokevirtual 42, 3) := by decide +kernel
theorem dX6_readInto_23 : decode cX6_readInto 23 = .ok (.iconst 0, 1) := by decide +kernel
theorem dX6_readInto_24 : decode cX6_readInto 24 = .ok (.istore_n 2, 1) := by decide +kernel
theorem dX6_readInto_25 : decode cX6_readInto 25 = .ok (.iload_n 2, 1) := by decide +kernel
theorem dX6_readInto_26 : decode cX6_readInto 26 = .ok (.sipush 800, 3) := by decide +kernel
theorem dX6_readInto_29 : decode cX6_readInto 29 = .ok (.if_icmp .gt 42, 3) := by decide +kernel
theorem dX6_readInto_32 : decode cX6_readInto 32 = .ok (.aload_n 0, 1) := by decide +kernel
theorem dX6_readInto_33 : decode cX6_readInto 33 = .ok (.getfield 19, 3) := by decide +kernel
theorem dX6_readInto_36 : decode cX6_readInto 36 = .ok (.ifCond .ne 35, 3) := by decide +kernel
theorem dX6_readInto_39 : decode cX6_readInto 39 = .ok (.aload_n 0, 1) := by decide +kernel
theorem dX6_readInto_40 : decode cX6_readInto 40 = .ok (.getfield 25, 3) := by decide +kernel
theorem dX6_readInto_43 : decode cX6_readInto 43 = .ok (.ifCond .eq 28, 3) := by decide +kernel
theorem dX6_readInto_71 : decode cX6_readInto 71 = .ok (.return_, 1) := by decide +kernel
theorem dX6_take_0 : decode cX6_take 0 = .ok (.aload_n 0, 1) := by decide +kernel
theorem dX6_take_1 : decode cX6_take 1 = .ok (.getfield 19, 3) := by decide +kernel
theorem dX6_take_4 : decode cX6_take 4 = .ok (.ifCond .eq 4, 3) := by decide +kernel
theorem dX6_take_8 : decode cX6_take 8 = .ok (.aload_n 0, 1) := by decide +kernel
theorem dX6_take_9 : decode cX6_take 9 = .ok (.getfield 31, 3) := by decide +kernel
theorem dX6_take_12 : decode cX6_take 12 = .ok (.aload_n 0, 1) := by decide +kernel
theorem dX6_take_13 : decode cX6_take 13 = .ok (.getfield 15, 3) := by decide +kernel
theorem dX6_take_16 : decode cX6_take 16 = .ok (.if_icmp .ge 31, 3) := by decide +kernel
theorem dX6_take_47 : decode cX6_take 47 = .ok (.aload_n 0, 1) := by decide +kernel
theorem dX6_take_48 : decode cX6_take 48 = .ok (.aload_n 0, 1) := by decide +kernel
theorem dX6_take_49 : decode cX6_take 49 = .ok (.getfield 31, 3) := by decide +kernel
theorem dX6_take_52 : decode cX6_take 52 = .ok (.putfield 28, 3) := by decide +kernel
theorem dX6_take_55 : decode cX6_take 55 = .ok (.aload_n 0, 1) := by decide +kernel
theorem dX6_take_56 : decode cX6_take 56 = .ok (.iconst 0, 1) := by decide +kernel
theorem dX6_take_57 : decode cX6_take 57 = .ok (.putfield 34, 3) := by decide +kernel
theorem dX6_take_60 : decode cX6_take 60 = .ok (.aload_n 0, 1) := by decide +kernel
theorem dX6_take_61 : decode cX6_take 61 = .ok (.getfield 31, 3) := by decide +kernel
theorem dX6_take_64 : decode cX6_take 64 = .ok (.aload_n 0, 1) := by decide +kernel
theorem dX6_take_65 : decode cX6_take 65 = .ok (.getfield 15, 3) := by decide +kernel
theorem dX6_take_68 : decode cX6_take 68 = .ok (.if_icmp .lt 11, 3) := by decide +kernel
theorem dX6_take_71 : decode cX6_take 71 = .ok (.aload_n 0, 1) := by decide +kernel
theorem dX6_take_72 : decode cX6_take 72 = .ok (.iconst 0, 1) := by decide +kernel
theorem dX6_take_73 : decode cX6_take 73 = .ok (.putfield 25, 3) := by decide +kernel
theorem dX6_take_76 : decode cX6_take 76 = .ok (.goto 183, 3) := by decide +kernel
theorem dX6_take_259 : decode cX6_take 259 = .ok (.return_, 1) := by decide +kernel
theorem dX7_init_0 : decode cX7_init 0 = .ok (.aload_n 0, 1) := by decide +kernel
theorem dX7_init_1 : decode cX7_init 1 = .ok (.invokespecial 3, 3) := by decide +kernel
theorem dX7_init_4 : decode cX7_init 4 = .ok (.aload_n 0, 1) := by decide +kernel
theorem dX7_init_5 : decode cX7_init 5 = .ok (.new 9, 3) := by decide +kernel
theorem dX7_init_8 : decode cX7_init 8 = .ok (.dup, 1) := by decide +kernel
theorem dX7_init_9 : decode cX7_init 9 = .ok (.invokespecial 11, 3) := by decide +kernel
theorem dX7_init_12 : decode cX7_init 12 = .ok (.putfield 12, 3) := by decide +kernel
theorem dX7_init_15 : decode cX7_init 15 = .ok (.aload_n 0, 1) := by decide +kernel
theorem dX7_init_16 : decode cX7_init 16 = .ok (.new 16, 3) := by decide +kernel
theorem dX7_init_19 : decode cX7_init 19 = .ok (.dup, 1) := by decide +kernel
theorem dX7_init_20 : decode cX7_init 20 = .ok (.invokespecial 18, 3) := by decide +kernel
theorem dX7_init_23 : decode cX7_init 23 = .ok (.putfield 19, 3) := by decide +kernel
theorem dX7_init_26 : decode cX7_init 26 = .ok (.aload_n 0, 1) := by decide +kernel
theorem dX7_init_27 : decode cX7_init 27 = .ok (.new 16, 3) := by decide +kernel
theorem dX7_init_30 : decode cX7_init 30 = .ok (.dup, 1) := by decide +kernel
theorem dX7_init_31 : decode cX7_init 31 = .ok (.invokespecial 18, 3) := by decide +kernel
theorem dX7_init_34 : decode cX7_init 34 = .ok (.putfield 23, 3) := by decide +kernel
theorem dX7_init_37 : decode cX7_init 37 = .ok (.aload_n 0, 1) := by decide +kernel
theorem dX7_init_38 : decode cX7_init 38 = .ok (.iconst 3, 1) := by decide +kernel
theorem dX7_init_39 : decode cX7_init 39 = .ok (.anewarray 16, 3) := by decide +kernel
theorem dX7_init_42 : decode cX7_init 42 = .ok (.putfield 26, 3) := by decide +kernel
theorem dX7_init_45 : decode cX7_init 45 = .ok (.aload_n 0, 1) := by decide +kernel
theorem dX7_init_46 : decode cX7_init 46 = .ok (.iconst 4, 1) := by decide +kernel
theorem dX7_init_47 : decode cX7_init 47 = .ok (.anewarray 30, 3) := by decide +kernel
theorem dX7_init_50 : decode cX7_init 50 = .ok (.putfield 32, 3) := by decide +kernel
theorem dX7_init_53 : decode cX7_init 53 = .ok (.aload_n 0, 1) := by decide +kernel
theorem dX7_init_54 : decode cX7_init 54 = .ok (.new 36, 3) := by decide +kernel
theorem dX7_init_57 : decode cX7_init 57 = .ok (.dup, 1) := by decide +kernel
theorem dX7_init_58 : decode cX7_init 58 = .ok (.aload_n 0, 1) := by decide +kernel
theorem dX7_init_59 : decode cX7_init 59 = .ok (.getfield 19, 3) := by decide +kernel
theorem dX7_init_62 : decode cX7_init 62 = .ok (.invokespecial 38, 3) := by decide +kernel
theorem dX7_init_65 : decode cX7_init 65 = .ok (.putfield 41, 3) := by decide +kernel
theorem dX7_init_68 : decode cX7_init 68 = .ok (.aload_n 0, 1) := by decide +kernel
theorem dX7_init_69 : decode cX7_init 69 = .ok (.new 36, 3) := by decide +kernel
theorem dX7_init_72 : decode cX7_init 72 = .ok (.dup, 1) := by decide +kernel
theorem dX7_init_73 : decode cX7_init 73 = .ok (.aload_n 0, 1) := by decide +kernel
theorem dX7_init_74 : decode cX7_init 74 = .ok (.getfield 19, 3) := by decide +kernel
theorem dX7_init_77 : decode cX7_init 77 = .ok (.invokespecial 38, 3) := by decide +kernel
theorem dX7_init_80 : decode cX7_init 80 = .ok (.putfield 45, 3) := by decide +kernel
theorem dX7_init_83 : decode cX7_init 83 = .ok (.aload_n 0, 1) := by decide +kernel
theorem dX7_init_84 : decode cX7_init 84 = .ok (.new 48, 3) := by decide +kernel
theorem dX7_init_87 : decode cX7_init 87 = .ok (.dup, 1) := by decide +kernel
theorem dX7_init_88 : decode cX7_init 88 = .ok (.aload_n 0, 1) := by decide +kernel
theorem dX7_init_89 : decode cX7_init 89 = .ok (.getfield 19, 3) := by decide +kernel
theorem dX7_init_92 : decode cX7_init 92 = .ok (.invokespecial 50, 3) := by decide +kernel
theorem dX7_init_95 : decode cX7_init 95 = .ok (.putfield 51, 3) := by decide +kernel
theorem dX7_init_98 : decode cX7_init 98 = .ok (.aload_n 0, 1) := by decide +kernel
theorem dX7_init_99 : decode cX7_init 99 = .ok (.new 55, 3) := by decide +kernel
theorem dX7_init_102 : decode cX7_init 102 = .ok (.dup, 1) := by decide +kernel
theorem dX7_init_103 : decode cX7_init 103 = .ok (.aload_n 0, 1) := by decide +kernel
theorem dX7_init_104 : decode cX7_init 104 = .ok (.getfield 19, 3) := by decide +kernel
theorem dX7_init_107 : decode cX7_init 107 = .ok (.invokespecial 57, 3) := by decide +kernel
theorem dX7_init_110 : decode cX7_init 110 = .ok (.putfield 58, 3) := by decide +kernel
theorem dX7_init_113 : decode cX7_init 113 = .ok (.aload_n 0, 1) := by decide +kernel
theorem dX7_init_114 : decode cX7_init 114 = .ok (.sipush 128, 3) := by decide +kernel
theorem dX7_init_117 : decode cX7_init 117 = .ok (.newarray .int, 2) := by decide +kernel
theorem dX7_init_119 : decode cX7_init 119 = .ok (.putfield 62, 3) := by decide +kernel
theorem dX7_init_122 : decode cX7_init 122 = .ok (.aload_n 0, 1) := by decide +kernel
theorem dX7_init_123 : decode cX7_init 123 = .ok (.iconst 0, 1) := by decide +kernel
theorem dX7_init_124 : decode cX7_init 124 = .ok (.putfield 66, 3) := by decide +kernel
theorem dX7_init_127 : decode cX7_init 127 = .ok (.aload_n 0, 1) := by decide +kernel
theorem dX7_init_128 : decode cX7_init 128 = .ok (.sipush 544, 3) := by decide +kernel
theorem dX7_init_131 : decode cX7_init 131 = .ok (.newarray .int, 2) := by decide +kernel
theorem dX7_init_133 : decode cX7_init 133 = .ok (.putfield 70, 3) := by decide +kernel
theorem dX7_init_136 : decode cX7_init 136 = .ok (.return_, 1) := by decide +kernel
theorem dX7_feed_0 : decode cX7_feed 0 = .ok (.aload_n 0, 1) := by decide +kernel
theorem dX7_feed_1 : decode cX7_feed 1 = .ok (.getfield 12, 3) := by decide +kernel
theorem dX7_feed_4 : decode cX7_feed 4 = .ok (.getfield 73, 3) := by decide +kernel
theorem dX7_feed_7 : decode cX7_feed 7 = .ok (.sipush 780, 3) := by decide +kernel
theorem dX7_feed_10 : decode cX7_feed 10 = .ok (.if_icmp .le 5, 3) := by decide +kernel
theorem dX7_feed_15 : decode cX7_feed 15 = .ok (.aload_n 0, 1) := by decide +kernel
theorem dX7_feed_16 : decode cX7_feed 16 = .ok (.getfield 12, 3) := by decide +kernel
theorem dX7_feed_19 : decode cX7_feed 19 = .ok (.iload_n 1, 1) := by decide +kernel
theorem dX7_feed_20 : decode cX7_feed 20 = .ok (.invokevirtual 77, 3) := by decide +kernel
theorem dX7_feed_23 : decode cX7_feed 23 = .ok (.aload_n 0, 1) := by decide +kernel
theorem dX7_feed_24 : decode cX7_feed 24 = .ok (.getfield 12, 3) := by decide +kernel
theorem dX7_feed_27 : decode cX7_feed 27 = .ok (.iload_n 2, 1) := by decide +kernel
theorem dX7_feed_28 : decode cX7_feed 28 = .ok (.invokevirtual 77, 3) := by decide +kernel
theorem dX7_feed_31 : decode cX7_feed 31 = .ok (.aload_n 0, 1) := by decide +kernel
theorem dX7_feed_32 : decode cX7_feed 32 = .ok (.getfield 12, 3) := by decide +kernel
theorem dX7_feed_35 : decode cX7_feed 35 = .ok (.iload_n 3, 1) := by decide +kernel
theorem dX7_feed_36 : decode cX7_feed 36 = .ok (.invokevirtual 77, 3) := by decide +kernel
theorem dX7_feed_39 : decode cX7_feed 39 = .ok (.aload_n 0, 1) := by decide +kernel
theorem dX7_feed_40 : decode cX7_feed 40 = .ok (.getfield 12, 3) := by decide +kernel
theorem dX7_feed_43 : decode cX7_feed 43 = .ok (.iload 4, 2) := by decide +kernel
theorem dX7_feed_45 : decode cX7_feed 45 = .ok (.invokevirtual 77, 3) := by decide +kernel
theorem dX7_feed_48 : decode cX7_feed 48 = .ok (.aload_n 0, 1) := by decide +kernel
theorem dX7_feed_49 : decode cX7_feed 49 = .ok (.getfield 12, 3) := by decide +kernel
theorem dX7_feed_52 : decode cX7_feed 52 = .ok (.iload 5, 2) := by decide +kernel
theorem dX7_feed_54 : decode cX7_feed 54 = .ok (.invokevirtual 77, 3) := by decide +kernel
theorem dX7_feed_57 : decode cX7_feed 57 = .ok (.aload_n 0, 1) := by decide +kernel
theorem dX7_feed_58 : decode cX7_feed 58 = .ok (.getfield 12, 3) := by decide +kernel
theorem dX7_feed_61 : decode cX7_feed 61 = .ok (.getfield 73, 3) := by decide +kernel
theorem dX7_feed_64 : decode cX7_feed 64 = .ok (.ireturn, 1) := by decide +kernel
theorem dX7_end_0 : decode cX7_end 0 = .ok (.iload_n 1, 1) := by decide +kernel
theorem dX7_end_1 : decode cX7_end 1 = .ok (.ifCond .lt 14, 3) := by decide +kernel
theorem dX7_end_4 : decode cX7_end 4 = .ok (.iload_n 1, 1) := by decide +kernel
theorem dX7_end_5 : decode cX7_end 5 = .ok (.aload_n 0, 1) := by decide +kernel
theorem dX7_end_6 : decode cX7_end 6 = .ok (.getfield 12, 3) := by decide +kernel
theorem dX7_end_9 : decode cX7_end 9 = .ok (.getfield 73, 3) := by decide +kernel
theorem dX7_end_12 : decode cX7_end 12 = .ok (.if_icmp .le 5, 3) := by decide +kernel
theorem dX7_end_15 : decode cX7_end 15 = .ok (.iconst (-1), 1) := by decide +kernel
theorem dX7_end_16 : decode cX7_end 16 = .ok (.ireturn, 1) := by decide +kernel
theorem dX7_end_17 : decode cX7_end 17 = .ok (.aload_n 0, 1) := by decide +kernel
theorem dX7_end_18 : decode cX7_end 18 = .ok (.getfield 12, 3) := by decide +kernel
theorem dX7_end_21 : decode cX7_end 21 = .ok (.iload_n 1, 1) := by decide +kernel
theorem dX7_end_22 : decode cX7_end 22 = .ok (.putfield 73, 3) := by decide +kernel
theorem dX7_end_25 : decode cX7_end 25 = .ok (.iload_n 1, 1) := by decide +kernel
theorem dX7_end_26 : decode cX7_end 26 = .ok (.ireturn, 1) := by decide +kernel
theorem dX7_heath_0 : decode cX7_heath 0 = .ok (.aload_n 0, 1) := by decide +kernel
theorem dX7_heath_1 : decode cX7_heath 1 = .ok (.getfield 12, 3) := by decide +kernel
theorem dX7_heath_4 : decode cX7_heath 4 = .ok (.aload_n 0, 1) := by decide +kernel
theorem dX7_heath_5 : decode cX7_heath 5 = .ok (.getfield 23, 3) := by decide +kernel
theorem dX7_heath_8 : decode cX7_heath 8 = .ok (.invokevirtual 81, 3) := by decide +kernel
theorem dX7_heath_11 : decode cX7_heath 11 = .ok (.aload_n 0, 1) := by decide +kernel
theorem dX7_heath_12 : decode cX7_heath 12 = .ok (.getfield 12, 3) := by decide +kernel
theorem dX7_heath_15 : decode cX7_heath 15 = .ok (.getfield 84, 3) := by decide +kernel
theorem dX7_heath_18 : decode cX7_heath 18 = .ok (.ifCond .eq 6, 3) := by decide +kernel
theorem dX7_heath_24 : decode cX7_heath 24 = .ok (.aload_n 0, 1) := by decide +kernel
theorem dX7_heath_25 : decode cX7_heath 25 = .ok (.getfield 12, 3) := by decide +kernel
theorem dX7_heath_28 : decode cX7_heath 28 = .ok (.iconst 0, 1) := by decide +kernel
theorem dX7_heath_29 : decode cX7_heath 29 = .ok (.putfield 73, 3) := by decide +kernel
theorem dX7_heath_32 : decode cX7_heath 32 = .ok (.aload_n 0, 1) := by decide +kernel
theorem dX7_heath_33 : decode cX7_heath 33 = .ok (.getfield 19, 3) := by decide +kernel
theorem dX7_heath_36 : decode cX7_heath 36 = .ok (.aload_n 0, 1) := by decide +kernel
theorem dX7_heath_37 : decode cX7_heath 37 = .ok (.getfield 23, 3) := by decide +kernel
theorem dX7_heath_40 : decode cX7_heath 40 = .ok (.invokevirtual 87, 3) := by decide +kernel
theorem dX7_heath_43 : decode cX7_heath 43 = .ok (.aload_n 0, 1) := by decide +kernel
theorem dX7_heath_44 : decode cX7_heath 44 = .ok (.invokevirtual 90, 3) := by decide +kernel
theorem dX7_heath_47 : decode cX7_heath 47 = .ok (.aload_n 0, 1) := by decide +kernel
theorem dX7_heath_48 : decode cX7_heath 48 = .ok (.getfield 19, 3) := by decide +kernel
theorem dX7_heath_51 : decode cX7_heath 51 = .ok (.getfield 93, 3) := by decide +kernel
theorem dX7_heath_54 : decode cX7_heath 54 = .ok (.ireturn, 1) := by decide +kernel
theorem dX7_fault_0 : decode cX7_fault 0 = .ok (.iload_n 1, 1) := by decide +kernel
theorem dX7_fault_1 : decode cX7_fault 1 = .ok (.ifCond .ne 11, 3) := by decide +kernel
theorem dX7_fault_4 : decode cX7_fault 4 = .ok (.aload_n 0, 1) := by decide +kernel
theorem dX7_fault_5 : decode cX7_fault 5 = .ok (.getfield 12, 3) := by decide +kernel
theorem dX7_fault_8 : decode cX7_fault 8 = .ok (.getfield 84, 3) := by decide +kernel
theorem dX7_fault_11 : decode cX7_fault 11 = .ok (.ireturn, 1) := by decide +kernel
theorem dX7_fault_12 : decode cX7_fault 12 = .ok (.iload_n 1, 1) := by decide +kernel
theorem dX7_fault_13 : decode cX7_fault 13 = .ok (.iconst 1, 1) := by decide +kernel
theorem dX7_fault_14 : decode cX7_fault 14 = .ok (.if_icmp .ne 13, 3) := by decide +kernel
theorem dX7_fault_17 : decode cX7_fault 17 = .ok (.aload_n 0, 1) := by decide +kernel
theorem dX7_fault_18 : decode cX7_fault 18 = .ok (.getfield 12, 3) := by decide +kernel
theorem dX7_fault_21 : decode cX7_fault 21 = .ok (.getfield 96, 3) := by decide +kernel
theorem dX7_fault_24 : decode cX7_fault 24 = .ok (.goto 4, 3) := by decide +kernel
theorem dX7_fault_27 : decode cX7_fault 27 = .ok (.iconst (-1), 1) := by decide +kernel
theorem dX7_fault_28 : decode cX7_fault 28 = .ok (.ireturn, 1) := by decide +kernel
theorem dX7_room_0 : decode cX7_room 0 = .ok (.aload_n 0, 1) := by decide +kernel
theorem dX7_room_1 : decode cX7_room 1 = .ok (.getfield 19, 3) := by decide +kernel
theorem dX7_room_4 : decode cX7_room 4 = .ok (.iload_n 1, 1) := by decide +kernel
theorem dX7_room_5 : decode cX7_room 5 = .ok (.invokevirtual 99, 3) := by decide +kernel
theorem dX7_room_8 : decode cX7_room 8 = .ok (.ifCond .eq 15, 3) := by decide +kernel
theorem dX7_room_23 : decode cX7_room 23 = .ok (.bipush (-2), 2) := by decide +kernel
theorem dX7_room_25 : decode cX7_room 25 = .ok (.ireturn, 1) := by decide +kernel
theorem dX7_roads_0 : decode cX7_roads 0 = .ok (.aload_n 0, 1) := by decide +kernel
theorem dX7_roads_1 : decode cX7_roads 1 = .ok (.getfield 19, 3) := by decide +kernel
theorem dX7_roads_4 : decode cX7_roads 4 = .ok (.iload_n 1, 1) := by decide +kernel
theorem dX7_roads_5 : decode cX7_roads 5 = .ok (.invokevirtual 106, 3) := by decide +kernel
theorem dX7_roads_8 : decode cX7_roads 8 = .ok (.ifCond .eq 15, 3) := by decide +kernel
theorem dX7_roads_23 : decode cX7_roads 23 = .ok (.bipush (-2), 2) := by decide +kernel
theorem dX7_roads_25 : decode cX7_roads 25 = .ok (.ireturn, 1) := by decide +kernel
theorem dX7_goes_0 : decode cX7_goes 0 = .ok (.aload_n 0, 1) := by decide +kernel
theorem dX7_goes_1 : decode cX7_goes 1 = .ok (.getfield 19, 3) := by decide +kernel
theorem dX7_goes_4 : decode cX7_goes 4 = .ok (.iload_n 1, 1) := by decide +kernel
theorem dX7_goes_5 : decode cX7_goes 5 = .ok (.invokevirtual 106, 3) := by decide +kernel
theorem dX7_goes_8 : decode cX7_goes 8 = .ok (.ifCond .eq 7, 3) := by decide +kernel
theorem dX7_goes_15 : decode cX7_goes 15 = .ok (.bipush (-2), 2) := by decide +kernel
theorem dX7_goes_17 : decode cX7_goes 17 = .ok (.ireturn, 1) := by decide +kernel
theorem dX7_told_0 : decode cX7_told 0 = .ok (.aload_n 0, 1) := by decide +kernel
theorem dX7_told_1 : decode cX7_told 1 = .ok (.getfield 19, 3) := by decide +kernel
theorem dX7_told_4 : decode cX7_told 4 = .ok (.iload_n 1, 1) := by decide +kernel
theorem dX7_told_5 : decode cX7_told 5 = .ok (.invokevirtual 106, 3) := by decide +kernel
theorem dX7_told_8 : decode cX7_told 8 = .ok (.ifCond .ne 6, 3) := by decide +kernel
theorem dX7_told_11 : decode cX7_told 11 = .ok (.bipush (-2), 2) := by decide +kernel
theorem dX7_told_13 : decode cX7_told 13 = .ok (.ireturn, 1) := by decide +kernel
theorem dX7_walker_0 : decode cX7_walker 0 = .ok (.aload_n 0, 1) := by decide +kernel
theorem dX7_walker_1 : decode cX7_walker 1 = .ok (.getfield 19, 3) := by decide +kernel
theorem dX7_walker_4 : decode cX7_walker 4 = .ok (.iload_n 1, 1) := by decide +kernel
theorem dX7_walker_5 : decode cX7_walker 5 = .ok (.invokevirtual 122, 3) := by decide +kernel
theorem dX7_walker_8 : decode cX7_walker 8 = .ok (.ifCond .eq 10, 3) := by decide +kernel
theorem dX7_walker_18 : decode cX7_walker 18 = .ok (.bipush (-2), 2) := by decide +kernel
theorem dX7_walker_20 : decode cX7_walker 20 = .ok (.ireturn, 1) := by decide +kernel
theorem dX7_at_0 : decode cX7_at 0 = .ok (.aload_n 0, 1) := by decide +kernel
theorem dX7_at_1 : decode cX7_at 1 = .ok (.getfield 19, 3) := by decide +kernel
theorem dX7_at_4 : decode cX7_at 4 = .ok (.iload_n 1, 1) := by decide +kernel
theorem dX7_at_5 : decode cX7_at 5 = .ok (.invokevirtual 122, 3) := by decide +kernel
theorem dX7_at_8 : decode cX7_at 8 = .ok (.ifCond .eq 14, 3) := by decide +kernel
theorem dX7_at_22 : decode cX7_at 22 = .ok (.bipush (-2), 2) := by decide +kernel
theorem dX7_at_24 : decode cX7_at 24 = .ok (.ireturn, 1) := by decide +kernel
theorem dX7_arm_0 : decode cX7_arm 0 = .ok (.aload_n 0, 1) := by decide +kernel
theorem dX7_arm_1 : decode cX7_arm 1 = .ok (.getfield 19, 3) := by decide +kernel
theorem dX7_arm_4 : decode cX7_arm 4 = .ok (.iload_n 1, 1) := by decide +kernel
theorem dX7_arm_5 : decode cX7_arm 5 = .ok (.invokevirtual 106, 3) := by decide +kernel
theorem dX7_arm_8 : decode cX7_arm 8 = .ok (.ifCond .eq 14, 3) := by decide +kernel
theorem dX7_arm_22 : decode cX7_arm 22 = .ok (.bipush (-2), 2) := by decide +kernel
theorem dX7_arm_24 : decode cX7_arm 24 = .ok (.ireturn, 1) := by decide +kernel
theorem dX7_here_0 : decode cX7_here 0 = .ok (.aload_n 0, 1) := by decide +kernel
theorem dX7_here_1 : decode cX7_here 1 = .ok (.getfield 19, 3) := by decide +kernel
theorem dX7_here_4 : decode cX7_here 4 = .ok (.iload_n 1, 1) := by decide +kernel
theorem dX7_here_5 : decode cX7_here 5 = .ok (.invokevirtual 143, 3) := by decide +kernel
theorem dX7_here_8 : decode cX7_here 8 = .ok (.ifCond .eq 14, 3) := by decide +kernel
theorem dX7_here_22 : decode cX7_here 22 = .ok (.bipush (-2), 2) := by decide +kernel
theorem dX7_here_24 : decode cX7_here 24 = .ok (.ireturn, 1) := by decide +kernel
theorem dX7_sent_0 : decode cX7_sent 0 = .ok (.aload_n 0, 1) := by decide +kernel
theorem dX7_sent_1 : decode cX7_sent 1 = .ok (.getfield 19, 3) := by decide +kernel
theorem dX7_sent_4 : decode cX7_sent 4 = .ok (.iload_n 1, 1) := by decide +kernel
theorem dX7_sent_5 : decode cX7_sent 5 = .ok (.invokevirtual 149, 3) := by decide +kernel
theorem dX7_sent_8 : decode cX7_sent 8 = .ok (.ifCond .eq 14, 3) := by decide +kernel
theorem dX7_sent_22 : decode cX7_sent 22 = .ok (.bipush (-2), 2) := by decide +kernel
theorem dX7_sent_24 : decode cX7_sent 24 = .ok (.ireturn, 1) := by decide +kernel
theorem dX7_sends_0 : decode cX7_sends 0 = .ok (.aload_n 0, 1) := by decide +kernel
theorem dX7_sends_1 : decode cX7_sends 1 = .ok (.getfield 19, 3) := by decide +kernel
theorem dX7_sends_4 : decode cX7_sends 4 = .ok (.iload_n 1, 1) := by decide +kernel
theorem dX7_sends_5 : decode cX7_sends 5 = .ok (.invokevirtual 106, 3) := by decide +kernel
theorem dX7_sends_8 : decode cX7_sends 8 = .ok (.ifCond .eq 14, 3) := by decide +kernel
theorem dX7_sends_22 : decode cX7_sends 22 = .ok (.bipush (-2), 2) := by decide +kernel
theorem dX7_sends_24 : decode cX7_sends 24 = .ok (.ireturn, 1) := by decide +kernel
theorem dX7_used_0 : decode cX7_used 0 = .ok (.aload_n 0, 1) := by decide +kernel
theorem dX7_used_1 : decode cX7_used 1 = .ok (.getfield 19, 3) := by decide +kernel
theorem dX7_used_4 : decode cX7_used 4 = .ok (.iload_n 1, 1) := by decide +kernel
theorem dX7_used_5 : decode cX7_used 5 = .ok (.invokevirtual 106, 3) := by decide +kernel
theorem dX7_used_8 : decode cX7_used 8 = .ok (.ifCond .eq 7, 3) := by decide +kernel
theorem dX7_used_15 : decode cX7_used 15 = .ok (.bipush (-2), 2) := by decide +kernel
theorem dX7_used_17 : decode cX7_used 17 = .ok (.ireturn, 1) := by decide +kernel
theorem dX7_walks_0 : decode cX7_walks 0 = .ok (.aload_n 0, 1) := by decide +kernel
theorem dX7_walks_1 : decode cX7_walks 1 = .ok (.getfield 19, 3) := by decide +kernel
theorem dX7_walks_4 : decode cX7_walks 4 = .ok (.iload_n 1, 1) := by decide +kernel
theorem dX7_walks_5 : decode cX7_walks 5 = .ok (.invokevirtual 122, 3) := by decide +kernel
theorem dX7_walks_8 : decode cX7_walks 8 = .ok (.ifCond .eq 14, 3) := by decide +kernel
theorem dX7_walks_22 : decode cX7_walks 22 = .ok (.bipush (-2), 2) := by decide +kernel
theorem dX7_walks_24 : decode cX7_walks 24 = .ok (.ireturn, 1) := by decide +kernel
theorem dX7_home_0 : decode cX7_home 0 = .ok (.aload_n 0, 1) := by decide +kernel
theorem dX7_home_1 : decode cX7_home 1 = .ok (.getfield 19, 3) := by decide +kernel
theorem dX7_home_4 : decode cX7_home 4 = .ok (.iload_n 1, 1) := by decide +kernel
theorem dX7_home_5 : decode cX7_home 5 = .ok (.invokevirtual 122, 3) := by decide +kernel
theorem dX7_home_8 : decode cX7_home 8 = .ok (.ifCond .eq 14, 3) := by decide +kernel
theorem dX7_home_22 : decode cX7_home 22 = .ok (.bipush (-2), 2) := by decide +kernel
theorem dX7_home_24 : decode cX7_home 24 = .ok (.ireturn, 1) := by decide +kernel
theorem dX7_inn_0 : decode cX7_inn 0 = .ok (.aload_n 0, 1) := by decide +kernel
theorem dX7_inn_1 : decode cX7_inn 1 = .ok (.getfield 19, 3) := by decide +kernel
theorem dX7_inn_4 : decode cX7_inn 4 = .ok (.iload_n 1, 1) := by decide +kernel
theorem dX7_inn_5 : decode cX7_inn 5 = .ok (.invokevirtual 122, 3) := by decide +kernel
theorem dX7_inn_8 : decode cX7_inn 8 = .ok (.ifCond .ne 6, 3) := by decide +kernel
theorem dX7_inn_11 : decode cX7_inn 11 = .ok (.bipush (-2), 2) := by decide +kernel
theorem dX7_inn_13 : decode cX7_inn 13 = .ok (.ireturn, 1) := by decide +kernel
theorem dX7_trail_0 : decode cX7_trail 0 = .ok (.aload_n 0, 1) := by decide +kernel
theorem dX7_trail_1 : decode cX7_trail 1 = .ok (.getfield 19, 3) := by decide +kernel
theorem dX7_trail_4 : decode cX7_trail 4 = .ok (.iload_n 1, 1) := by decide +kernel
theorem dX7_trail_5 : decode cX7_trail 5 = .ok (.invokevirtual 122, 3) := by decide +kernel
theorem dX7_trail_8 : decode cX7_trail 8 = .ok (.ifCond .eq 14, 3) := by decide +kernel
theorem dX7_trail_22 : decode cX7_trail 22 = .ok (.bipush (-2), 2) := by decide +kernel
theorem dX7_trail_24 : decode cX7_trail 24 = .ok (.ireturn, 1) := by decide +kernel
theorem dX7_again_0 : decode cX7_again 0 = .ok (.aload_n 0, 1) := by decide +kernel
theorem dX7_again_1 : decode cX7_again 1 = .ok (.getfield 19, 3) := by decide +kernel
theorem dX7_again_4 : decode cX7_again 4 = .ok (.iload_n 1, 1) := by decide +kernel
theorem dX7_again_5 : decode cX7_again 5 = .ok (.invokevirtual 122, 3) := by decide +kernel
theorem dX7_again_8 : decode cX7_again 8 = .ok (.ifCond .eq 14, 3) := by decide +kernel
theorem dX7_again_22 : decode cX7_again 22 = .ok (.bipush (-2), 2) := by decide +kernel
theorem dX7_again_24 : decode cX7_again 24 = .ok (.ireturn, 1) := by decide +kernel
theorem dX7_lingers_0 : decode cX7_lingers 0 = .ok (.aload_n 0, 1) := by decide +kernel
theorem dX7_lingers_1 : decode cX7_lingers 1 = .ok (.getfield 19, 3) := by decide +kernel
theorem dX7_lingers_4 : decode cX7_lingers 4 = .ok (.iload_n 1, 1) := by decide +kernel
theorem dX7_lingers_5 : decode cX7_lingers 5 = .ok (.invokevirtual 122, 3) := by decide +kernel
theorem dX7_lingers_8 : decode cX7_lingers 8 = .ok (.ifCond .eq 14, 3) := by decide +kernel
theorem dX7_lingers_22 : decode cX7_lingers 22 = .ok (.bipush (-2), 2) := by decide +kernel
theorem dX7_lingers_24 : decode cX7_lingers 24 = .ok (.ireturn, 1) := by decide +kernel
theorem dX7_doors_0 : decode cX7_doors 0 = .ok (.aload_n 0, 1) := by decide +kernel
theorem dX7_doors_1 : decode cX7_doors 1 = .ok (.getfield 19, 3) := by decide +kernel
theorem dX7_doors_4 : decode cX7_doors 4 = .ok (.iload_n 1, 1) := by decide +kernel
theorem dX7_doors_5 : decode cX7_doors 5 = .ok (.invokevirtual 106, 3) := by decide +kernel
theorem dX7_doors_8 : decode cX7_doors 8 = .ok (.ifCond .eq 14, 3) := by decide +kernel
theorem dX7_doors_22 : decode cX7_doors 22 = .ok (.bipush (-2), 2) := by decide +kernel
theorem dX7_doors_24 : decode cX7_doors 24 = .ok (.ireturn, 1) := by decide +kernel
theorem dX7_guests_0 : decode cX7_guests 0 = .ok (.aload_n 0, 1) := by decide +kernel
theorem dX7_guests_1 : decode cX7_guests 1 = .ok (.getfield 19, 3) := by decide +kernel
theorem dX7_guests_4 : decode cX7_guests 4 = .ok (.iload_n 1, 1) := by decide +kernel
theorem dX7_guests_5 : decode cX7_guests 5 = .ok (.invokevirtual 99, 3) := by decide +kernel
theorem dX7_guests_8 : decode cX7_guests 8 = .ok (.ifCond .eq 14, 3) := by decide +kernel
theorem dX7_guests_22 : decode cX7_guests 22 = .ok (.bipush (-2), 2) := by decide +kernel
theorem dX7_guests_24 : decode cX7_guests 24 = .ok (.ireturn, 1) := by decide +kernel
theorem dX7_full_0 : decode cX7_full 0 = .ok (.aload_n 0, 1) := by decide +kernel
theorem dX7_full_1 : decode cX7_full 1 = .ok (.getfield 19, 3) := by decide +kernel
theorem dX7_full_4 : decode cX7_full 4 = .ok (.iload_n 1, 1) := by decide +kernel
theorem dX7_full_5 : decode cX7_full 5 = .ok (.invokevirtual 99, 3) := by decide +kernel
theorem dX7_full_8 : decode cX7_full 8 = .ok (.ifCond .eq 14, 3) := by decide +kernel
theorem dX7_full_22 : decode cX7_full 22 = .ok (.bipush (-2), 2) := by decide +kernel
theorem dX7_full_24 : decode cX7_full 24 = .ok (.ireturn, 1) := by decide +kernel
theorem dX7_refuses_0 : decode cX7_refuses 0 = .ok (.aload_n 0, 1) := by decide +kernel
theorem dX7_refuses_1 : decode cX7_refuses 1 = .ok (.getfield 19, 3) := by decide +kernel
theorem dX7_refuses_4 : decode cX7_refuses 4 = .ok (.iload_n 1, 1) := by decide +kernel
theorem dX7_refuses_5 : decode cX7_refuses 5 = .ok (.invokevirtual 99, 3) := by decide +kernel
theorem dX7_refuses_8 : decode cX7_refuses 8 = .ok (.ifCond .eq 14, 3) := by decide +kernel
theorem dX7_refuses_22 : decode cX7_refuses 22 = .ok (.bipush (-2), 2) := by decide +kernel
theorem dX7_refuses_24 : decode cX7_refuses 24 = .ok (.ireturn, 1) := by decide +kernel
theorem dX7_inside_0 : decode cX7_inside 0 = .ok (.aload_n 0, 1) := by decide +kernel
theorem dX7_inside_1 : decode cX7_inside 1 = .ok (.getfield 19, 3) := by decide +kernel
theorem dX7_inside_4 : decode cX7_inside 4 = .ok (.iload_n 1, 1) := by decide +kernel
theorem dX7_inside_5 : decode cX7_inside 5 = .ok (.invokevirtual 134, 3) := by decide +kernel
theorem dX7_inside_8 : decode cX7_inside 8 = .ok (.ifCond .eq 14, 3) := by decide +kernel
theorem dX7_inside_22 : decode cX7_inside 22 = .ok (.bipush (-2), 2) := by decide +kernel
theorem dX7_inside_24 : decode cX7_inside 24 = .ok (.ireturn, 1) := by decide +kernel
theorem dX7_outside_0 : decode cX7_outside 0 = .ok (.aload_n 0, 1) := by decide +kernel
theorem dX7_outside_1 : decode cX7_outside 1 = .ok (.getfield 19, 3) := by decide +kernel
theorem dX7_outside_4 : decode cX7_outside 4 = .ok (.iload_n 1, 1) := by decide +kernel
theorem dX7_outside_5 : decode cX7_outside 5 = .ok (.invokevirtual 134, 3) := by decide +kernel
theorem dX7_outside_8 : decode cX7_outside 8 = .ok (.ifCond .eq 14, 3) := by decide +kernel
theorem dX7_outside_22 : decode cX7_outside 22 = .ok (.bipush (-2), 2) := by decide +kernel
theorem dX7_outside_24 : decode cX7_outside 24 = .ok (.ireturn, 1) := by decide +kernel
theorem dX7_done_0 : decode cX7_done 0 = .ok (.aload_n 0, 1) := by decide +kernel
theorem dX7_done_1 : decode cX7_done 1 = .ok (.getfield 19, 3) := by decide +kernel
theorem dX7_done_4 : decode cX7_done 4 = .ok (.invokevirtual 198, 3) := by decide +kernel
theorem dX7_done_7 : decode cX7_done 7 = .ok (.ifCond .eq 13, 3) := by decide +kernel
theorem dX7_done_20 : decode cX7_done 20 = .ok (.bipush (-2), 2) := by decide +kernel
theorem dX7_done_22 : decode cX7_done 22 = .ok (.ireturn, 1) := by decide +kernel
theorem dX7_crowd_0 : decode cX7_crowd 0 = .ok (.aload_n 0, 1) := by decide +kernel
theorem dX7_crowd_1 : decode cX7_crowd 1 = .ok (.getfield 19, 3) := by decide +kernel
theorem dX7_crowd_4 : decode cX7_crowd 4 = .ok (.iload_n 1, 1) := by decide +kernel
theorem dX7_crowd_5 : decode cX7_crowd 5 = .ok (.invokevirtual 134, 3) := by decide +kernel
theorem dX7_crowd_8 : decode cX7_crowd 8 = .ok (.ifCond .eq 14, 3) := by decide +kernel
theorem dX7_crowd_22 : decode cX7_crowd 22 = .ok (.bipush (-2), 2) := by decide +kernel
theorem dX7_crowd_24 : decode cX7_crowd 24 = .ok (.ireturn, 1) := by decide +kernel
theorem dX7_armless_0 : decode cX7_armless 0 = .ok (.aload_n 0, 1) := by decide +kernel
theorem dX7_armless_1 : decode cX7_armless 1 = .ok (.getfield 19, 3) := by decide +kernel
theorem dX7_armless_4 : decode cX7_armless 4 = .ok (.invokevirtual 198, 3) := by decide +kernel
theorem dX7_armless_7 : decode cX7_armless 7 = .ok (.ifCond .eq 13, 3) := by decide +kernel
theorem dX7_armless_20 : decode cX7_armless 20 = .ok (.bipush (-2), 2) := by decide +kernel
theorem dX7_armless_22 : decode cX7_armless 22 = .ok (.ireturn, 1) := by decide +kernel
theorem dX7_meet_0 : decode cX7_meet 0 = .ok (.aload_n 0, 1) := by decide +kernel
theorem dX7_meet_1 : decode cX7_meet 1 = .ok (.iload_n 1, 1) := by decide +kernel
theorem dX7_meet_2 : decode cX7_meet 2 = .ok (.iload_n 2, 1) := by decide +kernel
theorem dX7_meet_3 : decode cX7_meet 3 = .ok (.invokevirtual 212, 3) := by decide +kernel
theorem dX7_meet_6 : decode cX7_meet 6 = .ok (.ifCond .eq 15, 3) := by decide +kernel
theorem dX7_meet_21 : decode cX7_meet 21 = .ok (.bipush (-2), 2) := by decide +kernel
theorem dX7_meet_23 : decode cX7_meet 23 = .ok (.ireturn, 1) := by decide +kernel
theorem dX7_busy_0 : decode cX7_busy 0 = .ok (.aload_n 0, 1) := by decide +kernel
theorem dX7_busy_1 : decode cX7_busy 1 = .ok (.getfield 19, 3) := by decide +kernel
theorem dX7_busy_4 : decode cX7_busy 4 = .ok (.invokevirtual 198, 3) := by decide +kernel
theorem dX7_busy_7 : decode cX7_busy 7 = .ok (.ifCond .ne 6, 3) := by decide +kernel
theorem dX7_busy_10 : decode cX7_busy 10 = .ok (.bipush (-2), 2) := by decide +kernel
theorem dX7_busy_12 : decode cX7_busy 12 = .ok (.ireturn, 1) := by decide +kernel
theorem dX7_idle_0 : decode cX7_idle 0 = .ok (.aload_n 0, 1) := by decide +kernel
theorem dX7_idle_1 : decode cX7_idle 1 = .ok (.getfield 19, 3) := by decide +kernel
theorem dX7_idle_4 : decode cX7_idle 4 = .ok (.invokevirtual 198, 3) := by decide +kernel
theorem dX7_idle_7 : decode cX7_idle 7 = .ok (.ifCond .ne 6, 3) := by decide +kernel
theorem dX7_idle_10 : decode cX7_idle 10 = .ok (.bipush (-2), 2) := by decide +kernel
theorem dX7_idle_12 : decode cX7_idle 12 = .ok (.ireturn, 1) := by decide +kernel
theorem dX7_reach_0 : decode cX7_reach 0 = .ok (.aload_n 0, 1) := by decide +kernel
theorem dX7_reach_1 : decode cX7_reach 1 = .ok (.getfield 19, 3) := by decide +kernel
theorem dX7_reach_4 : decode cX7_reach 4 = .ok (.iload_n 1, 1) := by decide +kernel
theorem dX7_reach_5 : decode cX7_reach 5 = .ok (.invokevirtual 106, 3) := by decide +kernel
theorem dX7_reach_8 : decode cX7_reach 8 = .ok (.ifCond .eq 14, 3) := by decide +kernel
theorem dX7_reach_22 : decode cX7_reach 22 = .ok (.bipush (-2), 2) := by decide +kernel
theorem dX7_reach_24 : decode cX7_reach 24 = .ok (.ireturn, 1) := by decide +kernel
theorem dX7_far_0 : decode cX7_far 0 = .ok (.aload_n 0, 1) := by decide +kernel
theorem dX7_far_1 : decode cX7_far 1 = .ok (.getfield 19, 3) := by decide +kernel
theorem dX7_far_4 : decode cX7_far 4 = .ok (.iload_n 1, 1) := by decide +kernel
theorem dX7_far_5 : decode cX7_far 5 = .ok (.invokevirtual 106, 3) := by decide +kernel
theorem dX7_far_8 : decode cX7_far 8 = .ok (.ifCond .eq 14, 3) := by decide +kernel
theorem dX7_far_22 : decode cX7_far 22 = .ok (.bipush (-2), 2) := by decide +kernel
theorem dX7_far_24 : decode cX7_far 24 = .ok (.ireturn, 1) := by decide +kernel
theorem dX7_setting_0 : decode cX7_setting 0 = .ok (.aload_n 0, 1) := by decide +kernel
theorem dX7_setting_1 : decode cX7_setting 1 = .ok (.getfield 19, 3) := by decide +kernel
theorem dX7_setting_4 : decode cX7_setting 4 = .ok (.iload_n 1, 1) := by decide +kernel
theorem dX7_setting_5 : decode cX7_setting 5 = .ok (.invokevirtual 134, 3) := by decide +kernel
theorem dX7_setting_8 : decode cX7_setting 8 = .ok (.ifCond .eq 11, 3) := by decide +kernel
theorem dX7_setting_19 : decode cX7_setting 19 = .ok (.bipush (-2), 2) := by decide +kernel
theorem dX7_setting_21 : decode cX7_setting 21 = .ok (.ireturn, 1) := by decide +kernel
theorem dX7_settings_0 : decode cX7_settings 0 = .ok (.aload_n 0, 1) := by decide +kernel
theorem dX7_settings_1 : decode cX7_settings 1 = .ok (.getfield 19, 3) := by decide +kernel
theorem dX7_settings_4 : decode cX7_settings 4 = .ok (.invokevirtual 198, 3) := by decide +kernel
theorem dX7_settings_7 : decode cX7_settings 7 = .ok (.ifCond .eq 13, 3) := by decide +kernel
theorem dX7_settings_20 : decode cX7_settings 20 = .ok (.bipush (-2), 2) := by decide +kernel
theorem dX7_settings_22 : decode cX7_settings 22 = .ok (.ireturn, 1) := by decide +kernel
theorem dX7_same_0 : decode cX7_same 0 = .ok (.aload_n 0, 1) := by decide +kernel
theorem dX7_same_1 : decode cX7_same 1 = .ok (.getfield 19, 3) := by decide +kernel
theorem dX7_same_4 : decode cX7_same 4 = .ok (.invokevirtual 198, 3) := by decide +kernel
theorem dX7_same_7 : decode cX7_same 7 = .ok (.ifCond .ne 6, 3) := by decide +kernel
theorem dX7_same_10 : decode cX7_same 10 = .ok (.bipush (-2), 2) := by decide +kernel
theorem dX7_same_12 : decode cX7_same 12 = .ok (.ireturn, 1) := by decide +kernel
theorem dX7_alone_0 : decode cX7_alone 0 = .ok (.aload_n 0, 1) := by decide +kernel
theorem dX7_alone_1 : decode cX7_alone 1 = .ok (.getfield 19, 3) := by decide +kernel
theorem dX7_alone_4 : decode cX7_alone 4 = .ok (.iload_n 1, 1) := by decide +kernel
theorem dX7_alone_5 : decode cX7_alone 5 = .ok (.invokevirtual 106, 3) := by decide +kernel
theorem dX7_alone_8 : decode cX7_alone 8 = .ok (.ifCond .ne 6, 3) := by decide +kernel
theorem dX7_alone_11 : decode cX7_alone 11 = .ok (.bipush (-2), 2) := by decide +kernel
theorem dX7_alone_13 : decode cX7_alone 13 = .ok (.ireturn, 1) := by decide +kernel
theorem dX7_steps_0 : decode cX7_steps 0 = .ok (.aload_n 0, 1) := by decide +kernel
theorem dX7_steps_1 : decode cX7_steps 1 = .ok (.getfield 19, 3) := by decide +kernel
theorem dX7_steps_4 : decode cX7_steps 4 = .ok (.iload_n 1, 1) := by decide +kernel
theorem dX7_steps_5 : decode cX7_steps 5 = .ok (.invokevirtual 106, 3) := by decide +kernel
theorem dX7_steps_8 : decode cX7_steps 8 = .ok (.ifCond .ne 6, 3) := by decide +kernel
theorem dX7_steps_11 : decode cX7_steps 11 = .ok (.bipush (-2), 2) := by decide +kernel
theorem dX7_steps_13 : decode cX7_steps 13 = .ok (.ireturn, 1) := by decide +kernel
theorem dX7_behind_0 : decode cX7_behind 0 = .ok (.aload_n 0, 1) := by decide +kernel
theorem dX7_behind_1 : decode cX7_behind 1 = .ok (.getfield 19, 3) := by decide +kernel
theorem dX7_behind_4 : decode cX7_behind 4 = .ok (.iload_n 1, 1) := by decide +kernel
theorem dX7_behind_5 : decode cX7_behind 5 = .ok (.invokevirtual 106, 3) := by decide +kernel
theorem dX7_behind_8 : decode cX7_behind 8 = .ok (.ifCond .ne 6, 3) := by decide +kernel
theorem dX7_behind_11 : decode cX7_behind 11 = .ok (.bipush (-2), 2) := by decide +kernel
theorem dX7_behind_13 : decode cX7_behind 13 = .ok (.ireturn, 1) := by decide +kernel
theorem dX7_nth_0 : decode cX7_nth 0 = .ok (.aload_n 0, 1) := by decide +kernel
theorem dX7_nth_1 : decode cX7_nth 1 = .ok (.getfield 19, 3) := by decide +kernel
theorem dX7_nth_4 : decode cX7_nth 4 = .ok (.iload_n 1, 1) := by decide +kernel
theorem dX7_nth_5 : decode cX7_nth 5 = .ok (.invokevirtual 106, 3) := by decide +kernel
theorem dX7_nth_8 : decode cX7_nth 8 = .ok (.ifCond .eq 10, 3) := by decide +kernel
theorem dX7_nth_18 : decode cX7_nth 18 = .ok (.bipush (-2), 2) := by decide +kernel
theorem dX7_nth_20 : decode cX7_nth 20 = .ok (.ireturn, 1) := by decide +kernel
theorem dX7_round_0 : decode cX7_round 0 = .ok (.aload_n 0, 1) := by decide +kernel
theorem dX7_round_1 : decode cX7_round 1 = .ok (.getfield 19, 3) := by decide +kernel
theorem dX7_round_4 : decode cX7_round 4 = .ok (.iload_n 1, 1) := by decide +kernel
theorem dX7_round_5 : decode cX7_round 5 = .ok (.invokevirtual 106, 3) := by decide +kernel
theorem dX7_round_8 : decode cX7_round 8 = .ok (.ifCond .ne 6, 3) := by decide +kernel
theorem dX7_round_11 : decode cX7_round 11 = .ok (.bipush (-2), 2) := by decide +kernel
theorem dX7_round_13 : decode cX7_round 13 = .ok (.ireturn, 1) := by decide +kernel
theorem dX7_houses_0 : decode cX7_houses 0 = .ok (.aload_n 0, 1) := by decide +kernel
theorem dX7_houses_1 : decode cX7_houses 1 = .ok (.getfield 19, 3) := by decide +kernel
theorem dX7_houses_4 : decode cX7_houses 4 = .ok (.iload_n 1, 1) := by decide +kernel
theorem dX7_houses_5 : decode cX7_houses 5 = .ok (.invokevirtual 106, 3) := by decide +kernel
theorem dX7_houses_8 : decode cX7_houses 8 = .ok (.ifCond .eq 21, 3) := by decide +kernel
theorem dX7_houses_29 : decode cX7_houses 29 = .ok (.bipush (-2), 2) := by decide +kernel
theorem dX7_houses_31 : decode cX7_houses 31 = .ok (.ireturn, 1) := by decide +kernel
theorem dX7_tree_0 : decode cX7_tree 0 = .ok (.aload_n 0, 1) := by decide +kernel
theorem dX7_tree_1 : decode cX7_tree 1 = .ok (.getfield 19, 3) := by decide +kernel
theorem dX7_tree_4 : decode cX7_tree 4 = .ok (.iload_n 1, 1) := by decide +kernel
theorem dX7_tree_5 : decode cX7_tree 5 = .ok (.invokevirtual 134, 3) := by decide +kernel
theorem dX7_tree_8 : decode cX7_tree 8 = .ok (.ifCond .ne 6, 3) := by decide +kernel
theorem dX7_tree_11 : decode cX7_tree 11 = .ok (.bipush (-2), 2) := by decide +kernel
theorem dX7_tree_13 : decode cX7_tree 13 = .ok (.ireturn, 1) := by decide +kernel
theorem dX7_ring_0 : decode cX7_ring 0 = .ok (.aload_n 0, 1) := by decide +kernel
theorem dX7_ring_1 : decode cX7_ring 1 = .ok (.getfield 19, 3) := by decide +kernel
theorem dX7_ring_4 : decode cX7_ring 4 = .ok (.iload_n 1, 1) := by decide +kernel
theorem dX7_ring_5 : decode cX7_ring 5 = .ok (.invokevirtual 134, 3) := by decide +kernel
theorem dX7_ring_8 : decode cX7_ring 8 = .ok (.ifCond .eq 24, 3) := by decide +kernel
theorem dX7_ring_32 : decode cX7_ring 32 = .ok (.bipush (-2), 2) := by decide +kernel
theorem dX7_ring_34 : decode cX7_ring 34 = .ok (.ireturn, 1) := by decide +kernel
theorem dX7_trees_0 : decode cX7_trees 0 = .ok (.aload_n 0, 1) := by decide +kernel
theorem dX7_trees_1 : decode cX7_trees 1 = .ok (.getfield 19, 3) := by decide +kernel
theorem dX7_trees_4 : decode cX7_trees 4 = .ok (.invokevirtual 198, 3) := by decide +kernel
theorem dX7_trees_7 : decode cX7_trees 7 = .ok (.ifCond .ne 6, 3) := by decide +kernel
theorem dX7_trees_10 : decode cX7_trees 10 = .ok (.bipush (-2), 2) := by decide +kernel
theorem dX7_trees_12 : decode cX7_trees 12 = .ok (.ireturn, 1) := by decide +kernel
theorem dX7_point_0 : decode cX7_point 0 = .ok (.aload_n 0, 1) := by decide +kernel
theorem dX7_point_1 : decode cX7_point 1 = .ok (.getfield 19, 3) := by decide +kernel
theorem dX7_point_4 : decode cX7_point 4 = .ok (.iload_n 1, 1) := by decide +kernel
theorem dX7_point_5 : decode cX7_point 5 = .ok (.invokevirtual 122, 3) := by decide +kernel
theorem dX7_point_8 : decode cX7_point 8 = .ok (.ifCond .eq 14, 3) := by decide +kernel
theorem dX7_point_22 : decode cX7_point 22 = .ok (.bipush (-2), 2) := by decide +kernel
theorem dX7_point_24 : decode cX7_point 24 = .ok (.ireturn, 1) := by decide +kernel
theorem dX7_best_0 : decode cX7_best 0 = .ok (.aload_n 0, 1) := by decide +kernel
theorem dX7_best_1 : decode cX7_best 1 = .ok (.getfield 19, 3) := by decide +kernel
theorem dX7_best_4 : decode cX7_best 4 = .ok (.invokevirtual 198, 3) := by decide +kernel
theorem dX7_best_7 : decode cX7_best 7 = .ok (.ifCond .ne 6, 3) := by decide +kernel
theorem dX7_best_10 : decode cX7_best 10 = .ok (.bipush (-2), 2) := by decide +kernel
theorem dX7_best_12 : decode cX7_best 12 = .ok (.ireturn, 1) := by decide +kernel
theorem dX7_crowds_0 : decode cX7_crowds 0 = .ok (.aload_n 0, 1) := by decide +kernel
theorem dX7_crowds_1 : decode cX7_crowds 1 = .ok (.getfield 19, 3) := by decide +kernel
theorem dX7_crowds_4 : decode cX7_crowds 4 = .ok (.invokevirtual 198, 3) := by decide +kernel
theorem dX7_crowds_7 : decode cX7_crowds 7 = .ok (.ifCond .ne 6, 3) := by decide +kernel
theorem dX7_crowds_10 : decode cX7_crowds 10 = .ok (.bipush (-2), 2) := by decide +kernel
theorem dX7_crowds_12 : decode cX7_crowds 12 = .ok (.ireturn, 1) := by decide +kernel
theorem dX7_may_0 : decode cX7_may 0 = .ok (.aload_n 0, 1) := by decide +kernel
theorem dX7_may_1 : decode cX7_may 1 = .ok (.iload_n 1, 1) := by decide +kernel
theorem dX7_may_2 : decode cX7_may 2 = .ok (.aload_n 0, 1) := by decide +kernel
theorem dX7_may_3 : decode cX7_may 3 = .ok (.getfield 19, 3) := by decide +kernel
theorem dX7_may_6 : decode cX7_may 6 = .ok (.iload_n 2, 1) := by decide +kernel
theorem dX7_may_7 : decode cX7_may 7 = .ok (.invokevirtual 106, 3) := by decide +kernel
theorem dX7_may_10 : decode cX7_may 10 = .ok (.invokevirtual 288, 3) := by decide +kernel
theorem dX7_may_13 : decode cX7_may 13 = .ok (.istore_n 3, 1) := by decide +kernel
theorem dX7_may_14 : decode cX7_may 14 = .ok (.iload_n 3, 1) := by decide +kernel
theorem dX7_may_15 : decode cX7_may 15 = .ok (.ifCond .eq 7, 3) := by decide +kernel
theorem dX7_may_18 : decode cX7_may 18 = .ok (.iload_n 3, 1) := by decide +kernel
theorem dX7_may_19 : decode cX7_may 19 = .ok (.goto 14, 3) := by decide +kernel
theorem dX7_may_33 : decode cX7_may 33 = .ok (.ireturn, 1) := by decide +kernel
theorem dX7_ask_0 : decode cX7_ask 0 = .ok (.aload_n 0, 1) := by decide +kernel
theorem dX7_ask_1 : decode cX7_ask 1 = .ok (.iload_n 1, 1) := by decide +kernel
theorem dX7_ask_2 : decode cX7_ask 2 = .ok (.aload_n 0, 1) := by decide +kernel
theorem dX7_ask_3 : decode cX7_ask 3 = .ok (.getfield 19, 3) := by decide +kernel
theorem dX7_ask_6 : decode cX7_ask 6 = .ok (.iload_n 2, 1) := by decide +kernel
theorem dX7_ask_7 : decode cX7_ask 7 = .ok (.invokevirtual 106, 3) := by decide +kernel
theorem dX7_ask_10 : decode cX7_ask 10 = .ok (.invokevirtual 288, 3) := by decide +kernel
theorem dX7_ask_13 : decode cX7_ask 13 = .ok (.istore_n 3, 1) := by decide +kernel
theorem dX7_ask_14 : decode cX7_ask 14 = .ok (.iload_n 3, 1) := by decide +kernel
theorem dX7_ask_15 : decode cX7_ask 15 = .ok (.ifCond .eq 5, 3) := by decide +kernel
theorem dX7_ask_18 : decode cX7_ask 18 = .ok (.iload_n 3, 1) := by decide +kernel
theorem dX7_ask_19 : decode cX7_ask 19 = .ok (.ireturn, 1) := by decide +kernel
theorem dX7_leaves_0 : decode cX7_leaves 0 = .ok (.aload_n 0, 1) := by decide +kernel
theorem dX7_leaves_1 : decode cX7_leaves 1 = .ok (.iload_n 1, 1) := by decide +kernel
theorem dX7_leaves_2 : decode cX7_leaves 2 = .ok (.aload_n 0, 1) := by decide +kernel
theorem dX7_leaves_3 : decode cX7_leaves 3 = .ok (.getfield 19, 3) := by decide +kernel
theorem dX7_leaves_6 : decode cX7_leaves 6 = .ok (.iload_n 2, 1) := by decide +kernel
theorem dX7_leaves_7 : decode cX7_leaves 7 = .ok (.invokevirtual 106, 3) := by decide +kernel
theorem dX7_leaves_10 : decode cX7_leaves 10 = .ok (.invokevirtual 288, 3) := by decide +kernel
theorem dX7_leaves_13 : decode cX7_leaves 13 = .ok (.istore_n 3, 1) := by decide +kernel
theorem dX7_leaves_14 : decode cX7_leaves 14 = .ok (.iload_n 3, 1) := by decide +kernel
theorem dX7_leaves_15 : decode cX7_leaves 15 = .ok (.ifCond .eq 5, 3) := by decide +kernel
theorem dX7_leaves_18 : decode cX7_leaves 18 = .ok (.iload_n 3, 1) := by decide +kernel
theorem dX7_leaves_19 : decode cX7_leaves 19 = .ok (.ireturn, 1) := by decide +kernel
theorem dX7_laws_0 : decode cX7_laws 0 = .ok (.aload_n 0, 1) := by decide +kernel
theorem dX7_laws_1 : decode cX7_laws 1 = .ok (.iload_n 1, 1) := by decide +kernel
theorem dX7_laws_2 : decode cX7_laws 2 = .ok (.aload_n 0, 1) := by decide +kernel
theorem dX7_laws_3 : decode cX7_laws 3 = .ok (.getfield 19, 3) := by decide +kernel
theorem dX7_laws_6 : decode cX7_laws 6 = .ok (.invokevirtual 198, 3) := by decide +kernel
theorem dX7_laws_9 : decode cX7_laws 9 = .ok (.invokevirtual 288, 3) := by decide +kernel
theorem dX7_laws_12 : decode cX7_laws 12 = .ok (.istore_n 2, 1) := by decide +kernel
theorem dX7_laws_13 : decode cX7_laws 13 = .ok (.iload_n 2, 1) := by decide +kernel
theorem dX7_laws_14 : decode cX7_laws 14 = .ok (.ifCond .eq 5, 3) := by decide +kernel
theorem dX7_laws_17 : decode cX7_laws 17 = .ok (.iload_n 2, 1) := by decide +kernel
theorem dX7_laws_18 : decode cX7_laws 18 = .ok (.ireturn, 1) := by decide +kernel
theorem dX7_by_0 : decode cX7_by 0 = .ok (.aload_n 0, 1) := by decide +kernel
theorem dX7_by_1 : decode cX7_by 1 = .ok (.getfield 19, 3) := by decide +kernel
theorem dX7_by_4 : decode cX7_by 4 = .ok (.invokevirtual 198, 3) := by decide +kernel
theorem dX7_by_7 : decode cX7_by 7 = .ok (.ifCond .eq 12, 3) := by decide +kernel
theorem dX7_by_19 : decode cX7_by 19 = .ok (.bipush (-2), 2) := by decide +kernel
theorem dX7_by_21 : decode cX7_by 21 = .ok (.ireturn, 1) := by decide +kernel
theorem dX7_law_0 : decode cX7_law 0 = .ok (.aload_n 0, 1) := by decide +kernel
theorem dX7_law_1 : decode cX7_law 1 = .ok (.getfield 19, 3) := by decide +kernel
theorem dX7_law_4 : decode cX7_law 4 = .ok (.invokevirtual 198, 3) := by decide +kernel
theorem dX7_law_7 : decode cX7_law 7 = .ok (.ifCond .ne 6, 3) := by decide +kernel
theorem dX7_law_10 : decode cX7_law 10 = .ok (.bipush (-2), 2) := by decide +kernel
theorem dX7_law_12 : decode cX7_law 12 = .ok (.ireturn, 1) := by decide +kernel
theorem dX7_worth_0 : decode cX7_worth 0 = .ok (.aload_n 0, 1) := by decide +kernel
theorem dX7_worth_1 : decode cX7_worth 1 = .ok (.getfield 19, 3) := by decide +kernel
theorem dX7_worth_4 : decode cX7_worth 4 = .ok (.invokevirtual 198, 3) := by decide +kernel
theorem dX7_worth_7 : decode cX7_worth 7 = .ok (.ifCond .eq 20, 3) := by decide +kernel
theorem dX7_worth_27 : decode cX7_worth 27 = .ok (.bipush (-2), 2) := by decide +kernel
theorem dX7_worth_29 : decode cX7_worth 29 = .ok (.ireturn, 1) := by decide +kernel
theorem dX7_share_0 : decode cX7_share 0 = .ok (.aload_n 0, 1) := by decide +kernel
theorem dX7_share_1 : decode cX7_share 1 = .ok (.getfield 19, 3) := by decide +kernel
theorem dX7_share_4 : decode cX7_share 4 = .ok (.iload_n 1, 1) := by decide +kernel
theorem dX7_share_5 : decode cX7_share 5 = .ok (.invokevirtual 106, 3) := by decide +kernel
theorem dX7_share_8 : decode cX7_share 8 = .ok (.ifCond .eq 10, 3) := by decide +kernel
theorem dX7_share_18 : decode cX7_share 18 = .ok (.sipush (-1000), 3) := by decide +kernel
theorem dX7_share_21 : decode cX7_share 21 = .ok (.ireturn, 1) := by decide +kernel
theorem dX7_rests_0 : decode cX7_rests 0 = .ok (.aload_n 0, 1) := by decide +kernel
theorem dX7_rests_1 : decode cX7_rests 1 = .ok (.iload_n 1, 1) := by decide +kernel
theorem dX7_rests_2 : decode cX7_rests 2 = .ok (.iload_n 2, 1) := by decide +kernel
theorem dX7_rests_3 : decode cX7_rests 3 = .ok (.invokevirtual 212, 3) := by decide +kernel
theorem dX7_rests_6 : decode cX7_rests 6 = .ok (.ifCond .ne 6, 3) := by decide +kernel
theorem dX7_rests_9 : decode cX7_rests 9 = .ok (.bipush (-2), 2) := by decide +kernel
theorem dX7_rests_11 : decode cX7_rests 11 = .ok (.ireturn, 1) := by decide +kernel
theorem dX7_gets_0 : decode cX7_gets 0 = .ok (.aload_n 0, 1) := by decide +kernel
theorem dX7_gets_1 : decode cX7_gets 1 = .ok (.iload_n 1, 1) := by decide +kernel
theorem dX7_gets_2 : decode cX7_gets 2 = .ok (.iload_n 2, 1) := by decide +kernel
theorem dX7_gets_3 : decode cX7_gets 3 = .ok (.invokevirtual 212, 3) := by decide +kernel
theorem dX7_gets_6 : decode cX7_gets 6 = .ok (.ifCond .eq 18, 3) := by decide +kernel
theorem dX7_gets_24 : decode cX7_gets 24 = .ok (.sipush (-1000), 3) := by decide +kernel
theorem dX7_gets_27 : decode cX7_gets 27 = .ok (.ireturn, 1) := by decide +kernel
theorem dX7_chance_0 : decode cX7_chance 0 = .ok (.aload_n 0, 1) := by decide +kernel
theorem dX7_chance_1 : decode cX7_chance 1 = .ok (.getfield 19, 3) := by decide +kernel
theorem dX7_chance_4 : decode cX7_chance 4 = .ok (.iload_n 1, 1) := by decide +kernel
theorem dX7_chance_5 : decode cX7_chance 5 = .ok (.invokevirtual 122, 3) := by decide +kernel
theorem dX7_chance_8 : decode cX7_chance 8 = .ok (.ifCond .eq 18, 3) := by decide +kernel
theorem dX7_chance_26 : decode cX7_chance 26 = .ok (.ldc2_w 330, 3) := by decide +kernel
theorem dX7_chance_29 : decode cX7_chance 29 = .ok (.lreturn, 1) := by decide +kernel
theorem dX7_mean_0 : decode cX7_mean 0 = .ok (.aload_n 0, 1) := by decide +kernel
theorem dX7_mean_1 : decode cX7_mean 1 = .ok (.iload_n 1, 1) := by decide +kernel
theorem dX7_mean_2 : decode cX7_mean 2 = .ok (.invokevirtual 327, 3) := by decide +kernel
theorem dX7_mean_5 : decode cX7_mean 5 = .ok (.ifCond .eq 10, 3) := by decide +kernel
theorem dX7_mean_15 : decode cX7_mean 15 = .ok (.ldc2_w 330, 3) := by decide +kernel
theorem dX7_mean_18 : decode cX7_mean 18 = .ok (.lreturn, 1) := by decide +kernel
theorem dX7_twists_0 : decode cX7_twists 0 = .ok (.aload_n 0, 1) := by decide +kernel
theorem dX7_twists_1 : decode cX7_twists 1 = .ok (.getfield 19, 3) := by decide +kernel
theorem dX7_twists_4 : decode cX7_twists 4 = .ok (.iload_n 1, 1) := by decide +kernel
theorem dX7_twists_5 : decode cX7_twists 5 = .ok (.invokevirtual 106, 3) := by decide +kernel
theorem dX7_twists_8 : decode cX7_twists 8 = .ok (.ifCond .eq 14, 3) := by decide +kernel
theorem dX7_twists_22 : decode cX7_twists 22 = .ok (.bipush (-2), 2) := by decide +kernel
theorem dX7_twists_24 : decode cX7_twists 24 = .ok (.ireturn, 1) := by decide +kernel
theorem dX7_holds_0 : decode cX7_holds 0 = .ok (.aload_n 0, 1) := by decide +kernel
theorem dX7_holds_1 : decode cX7_holds 1 = .ok (.getfield 19, 3) := by decide +kernel
theorem dX7_holds_4 : decode cX7_holds 4 = .ok (.iload_n 1, 1) := by decide +kernel
theorem dX7_holds_5 : decode cX7_holds 5 = .ok (.invokevirtual 122, 3) := by decide +kernel
theorem dX7_holds_8 : decode cX7_holds 8 = .ok (.ifCond .eq 14, 3) := by decide +kernel
theorem dX7_holds_22 : decode cX7_holds 22 = .ok (.bipush (-2), 2) := by decide +kernel
theorem dX7_holds_24 : decode cX7_holds 24 = .ok (.ireturn, 1) := by decide +kernel
theorem dX7_undo_0 : decode cX7_undo 0 = .ok (.aload_n 0, 1) := by decide +kernel
theorem dX7_undo_1 : decode cX7_undo 1 = .ok (.getfield 19, 3) := by decide +kernel
theorem dX7_undo_4 : decode cX7_undo 4 = .ok (.invokevirtual 198, 3) := by decide +kernel
theorem dX7_undo_7 : decode cX7_undo 7 = .ok (.ifCond .ne 6, 3) := by decide +kernel
theorem dX7_undo_10 : decode cX7_undo 10 = .ok (.bipush (-2), 2) := by decide +kernel
theorem dX7_undo_12 : decode cX7_undo 12 = .ok (.ireturn, 1) := by decide +kernel
theorem dX7_anew_0 : decode cX7_anew 0 = .ok (.aload_n 0, 1) := by decide +kernel
theorem dX7_anew_1 : decode cX7_anew 1 = .ok (.getfield 19, 3) := by decide +kernel
theorem dX7_anew_4 : decode cX7_anew 4 = .ok (.invokevirtual 198, 3) := by decide +kernel
theorem dX7_anew_7 : decode cX7_anew 7 = .ok (.ifCond .ne 6, 3) := by decide +kernel
theorem dX7_anew_10 : decode cX7_anew 10 = .ok (.bipush (-2), 2) := by decide +kernel
theorem dX7_anew_12 : decode cX7_anew 12 = .ok (.ireturn, 1) := by decide +kernel
theorem dX7_drawn_0 : decode cX7_drawn 0 = .ok (.aload_n 0, 1) := by decide +kernel
theorem dX7_drawn_1 : decode cX7_drawn 1 = .ok (.getfield 19, 3) := by decide +kernel
theorem dX7_drawn_4 : decode cX7_drawn 4 = .ok (.invokevirtual 198, 3) := by decide +kernel
theorem dX7_drawn_7 : decode cX7_drawn 7 = .ok (.ifCond .eq 17, 3) := by decide +kernel
theorem dX7_drawn_24 : decode cX7_drawn 24 = .ok (.bipush (-2), 2) := by decide +kernel
theorem dX7_drawn_26 : decode cX7_drawn 26 = .ok (.ireturn, 1) := by decide +kernel
theorem dX7_luck_0 : decode cX7_luck 0 = .ok (.iload_n 1, 1) := by decide +kernel
theorem dX7_luck_1 : decode cX7_luck 1 = .ok (.invokestatic 361, 3) := by decide +kernel
theorem dX7_luck_4 : decode cX7_luck 4 = .ok (.ifCond .eq 21, 3) := by decide +kernel
theorem dX7_luck_7 : decode cX7_luck 7 = .ok (.iload_n 2, 1) := by decide +kernel
theorem dX7_luck_8 : decode cX7_luck 8 = .ok (.invokestatic 246, 3) := by decide +kernel
theorem dX7_luck_11 : decode cX7_luck 11 = .ok (.ifCond .eq 14, 3) := by decide +kernel
theorem dX7_luck_14 : decode cX7_luck 14 = .ok (.aload_n 0, 1) := by decide +kernel
theorem dX7_luck_15 : decode cX7_luck 15 = .ok (.getfield 19, 3) := by decide +kernel
theorem dX7_luck_18 : decode cX7_luck 18 = .ok (.iload_n 3, 1) := by decide +kernel
theorem dX7_luck_19 : decode cX7_luck 19 = .ok (.invokevirtual 122, 3) := by decide +kernel
theorem dX7_luck_22 : decode cX7_luck 22 = .ok (.ifCond .ne 6, 3) := by decide +kernel
theorem dX7_luck_25 : decode cX7_luck 25 = .ok (.bipush (-2), 2) := by decide +kernel
theorem dX7_luck_27 : decode cX7_luck 27 = .ok (.ireturn, 1) := by decide +kernel
theorem dX7_rate_0 : decode cX7_rate 0 = .ok (.aload_n 0, 1) := by decide +kernel
theorem dX7_rate_1 : decode cX7_rate 1 = .ok (.getfield 19, 3) := by decide +kernel
theorem dX7_rate_4 : decode cX7_rate 4 = .ok (.iload_n 1, 1) := by decide +kernel
theorem dX7_rate_5 : decode cX7_rate 5 = .ok (.invokevirtual 99, 3) := by decide +kernel
theorem dX7_rate_8 : decode cX7_rate 8 = .ok (.ifCond .eq 13, 3) := by decide +kernel
theorem dX7_rate_21 : decode cX7_rate 21 = .ok (.bipush (-2), 2) := by decide +kernel
theorem dX7_rate_23 : decode cX7_rate 23 = .ok (.ireturn, 1) := by decide +kernel
theorem dX7_count_0 : decode cX7_count 0 = .ok (.iload_n 1, 1) := by decide +kernel
theorem dX7_count_1 : decode cX7_count 1 = .ok (.tableswitch 159 0 11 #[63, 71, 79, 87, 95, 103, 111, 119, 127, 138, 146, 154], 63) := by decide +kernel
theorem dX7_count_64 : decode cX7_count 64 = .ok (.aload_n 0, 1) := by decide +kernel
theorem dX7_count_65 : decode cX7_count 65 = .ok (.getfield 19, 3) := by decide +kernel
theorem dX7_count_68 : decode cX7_count 68 = .ok (.getfield 168, 3) := by decide +kernel
theorem dX7_count_71 : decode cX7_count 71 = .ok (.ireturn, 1) := by decide +kernel
theorem dX7_count_72 : decode cX7_count 72 = .ok (.aload_n 0, 1) := by decide +kernel
theorem dX7_count_73 : decode cX7_count 73 = .ok (.getfield 19, 3) := by decide +kernel
theorem dX7_count_76 : decode cX7_count 76 = .ok (.getfield 371, 3) := by decide +kernel
theorem dX7_count_79 : decode cX7_count 79 = .ok (.ireturn, 1) := by decide +kernel
theorem dX7_count_80 : decode cX7_count 80 = .ok (.aload_n 0, 1) := by decide +kernel
theorem dX7_count_81 : decode cX7_count 81 = .ok (.getfield 19, 3) := by decide +kernel
theorem dX7_count_84 : decode cX7_count 84 = .ok (.getfield 374, 3) := by decide +kernel
theorem dX7_count_87 : decode cX7_count 87 = .ok (.ireturn, 1) := by decide +kernel
theorem dX7_count_88 : decode cX7_count 88 = .ok (.aload_n 0, 1) := by decide +kernel
theorem dX7_count_89 : decode cX7_count 89 = .ok (.getfield 19, 3) := by decide +kernel
theorem dX7_count_92 : decode cX7_count 92 = .ok (.getfield 377, 3) := by decide +kernel
theorem dX7_count_95 : decode cX7_count 95 = .ok (.ireturn, 1) := by decide +kernel
theorem dX7_count_96 : decode cX7_count 96 = .ok (.aload_n 0, 1) := by decide +kernel
theorem dX7_count_97 : decode cX7_count 97 = .ok (.getfield 19, 3) := by decide +kernel
theorem dX7_count_100 : decode cX7_count 100 = .ok (.getfield 219, 3) := by decide +kernel
theorem dX7_count_103 : decode cX7_count 103 = .ok (.ireturn, 1) := by decide +kernel
theorem dX7_count_104 : decode cX7_count 104 = .ok (.aload_n 0, 1) := by decide +kernel
theorem dX7_count_105 : decode cX7_count 105 = .ok (.getfield 19, 3) := by decide +kernel
theorem dX7_count_108 : decode cX7_count 108 = .ok (.getfield 380, 3) := by decide +kernel
theorem dX7_count_111 : decode cX7_count 111 = .ok (.ireturn, 1) := by decide +kernel
theorem dX7_count_112 : decode cX7_count 112 = .ok (.aload_n 0, 1) := by decide +kernel
theorem dX7_count_113 : decode cX7_count 113 = .ok (.getfield 19, 3) := by decide +kernel
theorem dX7_count_116 : decode cX7_count 116 = .ok (.getfield 383, 3) := by decide +kernel
theorem dX7_count_119 : decode cX7_count 119 = .ok (.ireturn, 1) := by decide +kernel
theorem dX7_count_120 : decode cX7_count 120 = .ok (.aload_n 0, 1) := by decide +kernel
theorem dX7_count_121 : decode cX7_count 121 = .ok (.getfield 19, 3) := by decide +kernel
theorem dX7_count_124 : decode cX7_count 124 = .ok (.getfield 276, 3) := by decide +kernel
theorem dX7_count_127 : decode cX7_count 127 = .ok (.ireturn, 1) := by decide +kernel
theorem dX7_count_128 : decode cX7_count 128 = .ok (.aload_n 0, 1) := by decide +kernel
theorem dX7_count_129 : decode cX7_count 129 = .ok (.getfield 19, 3) := by decide +kernel
theorem dX7_count_132 : decode cX7_count 132 = .ok (.getfield 344, 3) := by decide +kernel
theorem dX7_count_135 : decode cX7_count 135 = .ok (.getfield 354, 3) := by decide +kernel
theorem dX7_count_138 : decode cX7_count 138 = .ok (.ireturn, 1) := by decide +kernel
theorem dX7_count_139 : decode cX7_count 139 = .ok (.aload_n 0, 1) := by decide +kernel
theorem dX7_count_140 : decode cX7_count 140 = .ok (.getfield 19, 3) := by decide +kernel
theorem dX7_count_143 : decode cX7_count 143 = .ok (.getfield 93, 3) := by decide +kernel
theorem dX7_count_146 : decode cX7_count 146 = .ok (.ireturn, 1) := by decide +kernel
theorem dX7_count_147 : decode cX7_count 147 = .ok (.aload_n 0, 1) := by decide +kernel
theorem dX7_count_148 : decode cX7_count 148 = .ok (.getfield 12, 3) := by decide +kernel
theorem dX7_count_151 : decode cX7_count 151 = .ok (.getfield 73, 3) := by decide +kernel
theorem dX7_count_154 : decode cX7_count 154 = .ok (.ireturn, 1) := by decide +kernel
theorem dX7_count_155 : decode cX7_count 155 = .ok (.aload_n 0, 1) := by decide +kernel
theorem dX7_count_156 : decode cX7_count 156 = .ok (.invokevirtual 386, 3) := by decide +kernel
theorem dX7_count_159 : decode cX7_count 159 = .ok (.ireturn, 1) := by decide +kernel
theorem dX7_count_160 : decode cX7_count 160 = .ok (.iconst (-1), 1) := by decide +kernel
theorem dX7_count_161 : decode cX7_count 161 = .ok (.ireturn, 1) := by decide +kernel
theorem dX7_image_0 : decode cX7_image 0 = .ok (.iload_n 1, 1) := by decide +kernel
theorem dX7_image_1 : decode cX7_image 1 = .ok (.ifCond .lt 8, 3) := by decide +kernel
theorem dX7_image_4 : decode cX7_image 4 = .ok (.iload_n 1, 1) := by decide +kernel
theorem dX7_image_5 : decode cX7_image 5 = .ok (.iconst 3, 1) := by decide +kernel
theorem dX7_image_6 : decode cX7_image 6 = .ok (.if_icmp .lt 6, 3) := by decide +kernel
theorem dX7_image_9 : decode cX7_image 9 = .ok (.bipush (-2), 2) := by decide +kernel
theorem dX7_image_11 : decode cX7_image 11 = .ok (.ireturn, 1) := by decide +kernel
theorem dX7_image_12 : decode cX7_image 12 = .ok (.aload_n 0, 1) := by decide +kernel
theorem dX7_image_13 : decode cX7_image 13 = .ok (.getfield 26, 3) := by decide +kernel
theorem dX7_image_16 : decode cX7_image 16 = .ok (.iload_n 1, 1) := by decide +kernel
theorem dX7_image_17 : decode cX7_image 17 = .ok (.aaload, 1) := by decide +kernel
theorem dX7_image_18 : decode cX7_image 18 = .ok (.ifnonnull 16, 3) := by decide +kernel
theorem dX7_image_21 : decode cX7_image 21 = .ok (.aload_n 0, 1) := by decide +kernel
theorem dX7_image_22 : decode cX7_image 22 = .ok (.getfield 26, 3) := by decide +kernel
theorem dX7_image_25 : decode cX7_image 25 = .ok (.iload_n 1, 1) := by decide +kernel
theorem dX7_image_26 : decode cX7_image 26 = .ok (.new 16, 3) := by decide +kernel
theorem dX7_image_29 : decode cX7_image 29 = .ok (.dup, 1) := by decide +kernel
theorem dX7_image_30 : decode cX7_image 30 = .ok (.invokespecial 18, 3) := by decide +kernel
theorem dX7_image_33 : decode cX7_image 33 = .ok (.aastore, 1) := by decide +kernel
theorem dX7_image_34 : decode cX7_image 34 = .ok (.aload_n 0, 1) := by decide +kernel
theorem dX7_image_35 : decode cX7_image 35 = .ok (.getfield 26, 3) := by decide +kernel
theorem dX7_image_38 : decode cX7_image 38 = .ok (.iload_n 1, 1) := by decide +kernel
theorem dX7_image_39 : decode cX7_image 39 = .ok (.aaload, 1) := by decide +kernel
theorem dX7_image_40 : decode cX7_image 40 = .ok (.aload_n 0, 1) := by decide +kernel
theorem dX7_image_41 : decode cX7_image 41 = .ok (.getfield 19, 3) := by decide +kernel
theorem dX7_image_44 : decode cX7_image 44 = .ok (.invokevirtual 87, 3) := by decide +kernel
theorem dX7_image_47 : decode cX7_image 47 = .ok (.iconst 0, 1) := by decide +kernel
theorem dX7_image_48 : decode cX7_image 48 = .ok (.ireturn, 1) := by decide +kernel
theorem dX7_back_0 : decode cX7_back 0 = .ok (.iload_n 1, 1) := by decide +kernel
theorem dX7_back_1 : decode cX7_back 1 = .ok (.ifCond .lt 8, 3) := by decide +kernel
theorem dX7_back_4 : decode cX7_back 4 = .ok (.iload_n 1, 1) := by decide +kernel
theorem dX7_back_5 : decode cX7_back 5 = .ok (.iconst 3, 1) := by decide +kernel
theorem dX7_back_6 : decode cX7_back 6 = .ok (.if_icmp .lt 6, 3) := by decide +kernel
theorem dX7_back_9 : decode cX7_back 9 = .ok (.bipush (-2), 2) := by decide +kernel
theorem dX7_back_11 : decode cX7_back 11 = .ok (.ireturn, 1) := by decide +kernel
theorem dX7_back_12 : decode cX7_back 12 = .ok (.aload_n 0, 1) := by decide +kernel
theorem dX7_back_13 : decode cX7_back 13 = .ok (.getfield 26, 3) := by decide +kernel
theorem dX7_back_16 : decode cX7_back 16 = .ok (.iload_n 1, 1) := by decide +kernel
theorem dX7_back_17 : decode cX7_back 17 = .ok (.aaload, 1) := by decide +kernel
theorem dX7_back_18 : decode cX7_back 18 = .ok (.ifnonnull 6, 3) := by decide +kernel
theorem dX7_back_21 : decode cX7_back 21 = .ok (.bipush (-6), 2) := by decide +kernel
theorem dX7_back_23 : decode cX7_back 23 = .ok (.ireturn, 1) := by decide +kernel
theorem dX7_row_0 : decode cX7_row 0 = .ok (.iload_n 1, 1) := by decide +kernel
theorem dX7_row_1 : decode cX7_row 1 = .ok (.invokestatic 389, 3) := by decide +kernel
theorem dX7_row_4 : decode cX7_row 4 = .ok (.ifCond .eq 18, 3) := by decide +kernel
theorem dX7_row_7 : decode cX7_row 7 = .ok (.iload_n 2, 1) := by decide +kernel
theorem dX7_row_8 : decode cX7_row 8 = .ok (.ifCond .lt 14, 3) := by decide +kernel
theorem dX7_row_11 : decode cX7_row 11 = .ok (.iload_n 2, 1) := by decide +kernel
theorem dX7_row_12 : decode cX7_row 12 = .ok (.iconst 3, 1) := by decide +kernel
theorem dX7_row_13 : decode cX7_row 13 = .ok (.if_icmp .gt 9, 3) := by decide +kernel
theorem dX7_row_16 : decode cX7_row 16 = .ok (.iload_n 3, 1) := by decide +kernel
theorem dX7_row_17 : decode cX7_row 17 = .ok (.bipush 60, 2) := by decide +kernel
theorem dX7_row_19 : decode cX7_row 19 = .ok (.if_icmp .le 6, 3) := by decide +kernel
theorem dX7_row_22 : decode cX7_row 22 = .ok (.bipush (-2), 2) := by decide +kernel
theorem dX7_row_24 : decode cX7_row 24 = .ok (.ireturn, 1) := by decide +kernel
theorem dX7_row_25 : decode cX7_row 25 = .ok (.iload_n 3, 1) := by decide +kernel
theorem dX7_row_26 : decode cX7_row 26 = .ok (.ifCond .ge 6, 3) := by decide +kernel
theorem dX7_row_29 : decode cX7_row 29 = .ok (.bipush (-3), 2) := by decide +kernel
theorem dX7_row_31 : decode cX7_row 31 = .ok (.ireturn, 1) := by decide +kernel
theorem dX7_row_32 : decode cX7_row 32 = .ok (.aload_n 0, 1) := by decide +kernel
theorem dX7_row_33 : decode cX7_row 33 = .ok (.getfield 32, 3) := by decide +kernel
theorem dX7_row_36 : decode cX7_row 36 = .ok (.iload_n 1, 1) := by decide +kernel
theorem dX7_row_37 : decode cX7_row 37 = .ok (.aaload, 1) := by decide +kernel
theorem dX7_row_38 : decode cX7_row 38 = .ok (.ifnonnull 16, 3) := by decide +kernel
theorem dX7_row_41 : decode cX7_row 41 = .ok (.aload_n 0, 1) := by decide +kernel
theorem dX7_row_42 : decode cX7_row 42 = .ok (.getfield 32, 3) := by decide +kernel
theorem dX7_row_45 : decode cX7_row 45 = .ok (.iload_n 1, 1) := by decide +kernel
theorem dX7_row_46 : decode cX7_row 46 = .ok (.new 30, 3) := by decide +kernel
theorem dX7_row_49 : decode cX7_row 49 = .ok (.dup, 1) := by decide +kernel
theorem dX7_row_50 : decode cX7_row 50 = .ok (.invokespecial 392, 3) := by decide +kernel
theorem dX7_row_53 : decode cX7_row 53 = .ok (.aastore, 1) := by decide +kernel
theorem dX7_row_54 : decode cX7_row 54 = .ok (.aload_n 0, 1) := by decide +kernel
theorem dX7_row_55 : decode cX7_row 55 = .ok (.getfield 32, 3) := by decide +kernel
theorem dX7_row_58 : decode cX7_row 58 = .ok (.iload_n 1, 1) := by decide +kernel
theorem dX7_row_59 : decode cX7_row 59 = .ok (.aaload, 1) := by decide +kernel
theorem dX7_row_60 : decode cX7_row 60 = .ok (.iload_n 2, 1) := by decide +kernel
theorem dX7_row_61 : decode cX7_row 61 = .ok (.iload_n 3, 1) := by decide +kernel
theorem dX7_row_62 : decode cX7_row 62 = .ok (.invokevirtual 393, 3) := by decide +kernel
theorem dX7_row_65 : decode cX7_row 65 = .ok (.iconst 0, 1) := by decide +kernel
theorem dX7_row_66 : decode cX7_row 66 = .ok (.ireturn, 1) := by decide +kernel
theorem dX7_write_0 : decode cX7_write 0 = .ok (.iload_n 1, 1) := by decide +kernel
theorem dX7_write_1 : decode cX7_write 1 = .ok (.invokestatic 389, 3) := by decide +kernel
theorem dX7_write_4 : decode cX7_write 4 = .ok (.ifCond .ne 6, 3) := by decide +kernel
theorem dX7_write_7 : decode cX7_write 7 = .ok (.bipush (-2), 2) := by decide +kernel
theorem dX7_write_9 : decode cX7_write 9 = .ok (.ireturn, 1) := by decide +kernel
theorem dX7_write_10 : decode cX7_write 10 = .ok (.aload_n 0, 1) := by decide +kernel
theorem dX7_write_11 : decode cX7_write 11 = .ok (.getfield 32, 3) := by decide +kernel
theorem dX7_write_14 : decode cX7_write 14 = .ok (.iload_n 1, 1) := by decide +kernel
theorem dX7_write_15 : decode cX7_write 15 = .ok (.aaload, 1) := by decide +kernel
theorem dX7_write_16 : decode cX7_write 16 = .ok (.ifnonnull 6, 3) := by decide +kernel
theorem dX7_write_19 : decode cX7_write 19 = .ok (.bipush (-6), 2) := by decide +kernel
theorem dX7_write_21 : decode cX7_write 21 = .ok (.ireturn, 1) := by decide +kernel
theorem dX7_paste_0 : decode cX7_paste 0 = .ok (.iload_n 1, 1) := by decide +kernel
theorem dX7_paste_1 : decode cX7_paste 1 = .ok (.invokestatic 389, 3) := by decide +kernel
theorem dX7_paste_4 : decode cX7_paste 4 = .ok (.ifCond .eq 10, 3) := by decide +kernel
theorem dX7_paste_7 : decode cX7_paste 7 = .ok (.iload_n 3, 1) := by decide +kernel
theorem dX7_paste_8 : decode cX7_paste 8 = .ok (.invokestatic 389, 3) := by decide +kernel
theorem dX7_paste_11 : decode cX7_paste 11 = .ok (.ifCond .ne 6, 3) := by decide +kernel
theorem dX7_paste_14 : decode cX7_paste 14 = .ok (.bipush (-2), 2) := by decide +kernel
theorem dX7_paste_16 : decode cX7_paste 16 = .ok (.ireturn, 1) := by decide +kernel
theorem dX7_paste_17 : decode cX7_paste 17 = .ok (.aload_n 0, 1) := by decide +kernel
theorem dX7_paste_18 : decode cX7_paste 18 = .ok (.getfield 32, 3) := by decide +kernel
theorem dX7_paste_21 : decode cX7_paste 21 = .ok (.iload_n 1, 1) := by decide +kernel
theorem dX7_paste_22 : decode cX7_paste 22 = .ok (.aaload, 1) := by decide +kernel
theorem dX7_paste_23 : decode cX7_paste 23 = .ok (.astore 6, 2) := by decide +kernel
theorem dX7_paste_25 : decode cX7_paste 25 = .ok (.aload_n 0, 1) := by decide +kernel
theorem dX7_paste_26 : decode cX7_paste 26 = .ok (.getfield 32, 3) := by decide +kernel
theorem dX7_paste_29 : decode cX7_paste 29 = .ok (.iload_n 3, 1) := by decide +kernel
theorem dX7_paste_30 : decode cX7_paste 30 = .ok (.aaload, 1) := by decide +kernel
theorem dX7_paste_31 : decode cX7_paste 31 = .ok (.astore 7, 2) := by decide +kernel
theorem dX7_paste_33 : decode cX7_paste 33 = .ok (.aload 6, 2) := by decide +kernel
theorem dX7_paste_35 : decode cX7_paste 35 = .ok (.ifnull 8, 3) := by decide +kernel
theorem dX7_paste_43 : decode cX7_paste 43 = .ok (.bipush (-6), 2) := by decide +kernel
theorem dX7_paste_45 : decode cX7_paste 45 = .ok (.ireturn, 1) := by decide +kernel
theorem dX7_changed_0 : decode cX7_changed 0 = .ok (.aload_n 0, 1) := by decide +kernel
theorem dX7_changed_1 : decode cX7_changed 1 = .ok (.iconst 0, 1) := by decide +kernel
theorem dX7_changed_2 : decode cX7_changed 2 = .ok (.putfield 66, 3) := by decide +kernel
theorem dX7_changed_5 : decode cX7_changed 5 = .ok (.aload_n 0, 1) := by decide +kernel
theorem dX7_changed_6 : decode cX7_changed 6 = .ok (.getfield 58, 3) := by decide +kernel
theorem dX7_changed_9 : decode cX7_changed 9 = .ok (.invokevirtual 415, 3) := by decide +kernel
theorem dX7_changed_12 : decode cX7_changed 12 = .ok (.aload_n 0, 1) := by decide +kernel
theorem dX7_changed_13 : decode cX7_changed 13 = .ok (.getfield 41, 3) := by decide +kernel
theorem dX7_changed_16 : decode cX7_changed 16 = .ok (.invokevirtual 279, 3) := by decide +kernel
theorem dX7_changed_19 : decode cX7_changed 19 = .ok (.aload_n 0, 1) := by decide +kernel
theorem dX7_changed_20 : decode cX7_changed 20 = .ok (.getfield 41, 3) := by decide +kernel
theorem dX7_changed_23 : decode cX7_changed 23 = .ok (.invokevirtual 285, 3) := by decide +kernel
theorem dX7_changed_26 : decode cX7_changed 26 = .ok (.return_, 1) := by decide +kernel
theorem dX7_isEither_0 : decode cX7_isEither 0 = .ok (.iload_n 0, 1) := by decide +kernel
theorem dX7_isEither_1 : decode cX7_isEither 1 = .ok (.ifCond .eq 8, 3) := by decide +kernel
theorem dX7_isEither_4 : decode cX7_isEither 4 = .ok (.iload_n 0, 1) := by decide +kernel
theorem dX7_isEither_5 : decode cX7_isEither 5 = .ok (.iconst 1, 1) := by decide +kernel
theorem dX7_isEither_6 : decode cX7_isEither 6 = .ok (.if_icmp .ne 7, 3) := by decide +kernel
theorem dX7_isEither_9 : decode cX7_isEither 9 = .ok (.iconst 1, 1) := by decide +kernel
theorem dX7_isEither_10 : decode cX7_isEither 10 = .ok (.goto 4, 3) := by decide +kernel
theorem dX7_isEither_13 : decode cX7_isEither 13 = .ok (.iconst 0, 1) := by decide +kernel
theorem dX7_isEither_14 : decode cX7_isEither 14 = .ok (.ireturn, 1) := by decide +kernel
theorem dX7_isFewInARow_0 : decode cX7_isFewInARow 0 = .ok (.iload_n 0, 1) := by decide +kernel
theorem dX7_isFewInARow_1 : decode cX7_isFewInARow 1 = .ok (.iconst 1, 1) := by decide +kernel
theorem dX7_isFewInARow_2 : decode cX7_isFewInARow 2 = .ok (.if_icmp .lt 13, 3) := by decide +kernel
theorem dX7_isFewInARow_5 : decode cX7_isFewInARow 5 = .ok (.iload_n 0, 1) := by decide +kernel
theorem dX7_isFewInARow_6 : decode cX7_isFewInARow 6 = .ok (.bipush 20, 2) := by decide +kernel
theorem dX7_isFewInARow_8 : decode cX7_isFewInARow 8 = .ok (.if_icmp .gt 7, 3) := by decide +kernel
theorem dX7_isFewInARow_11 : decode cX7_isFewInARow 11 = .ok (.iconst 1, 1) := by decide +kernel
theorem dX7_isFewInARow_12 : decode cX7_isFewInARow 12 = .ok (.goto 4, 3) := by decide +kernel
theorem dX7_isFewInARow_15 : decode cX7_isFewInARow 15 = .ok (.iconst 0, 1) := by decide +kernel
theorem dX7_isFewInARow_16 : decode cX7_isFewInARow 16 = .ok (.ireturn, 1) := by decide +kernel
theorem dX7_isSeed_0 : decode cX7_isSeed 0 = .ok (.iload_n 0, 1) := by decide +kernel
theorem dX7_isSeed_1 : decode cX7_isSeed 1 = .ok (.ifCond .lt 14, 3) := by decide +kernel
theorem dX7_isSeed_4 : decode cX7_isSeed 4 = .ok (.iload_n 0, 1) := by decide +kernel
theorem dX7_isSeed_5 : decode cX7_isSeed 5 = .ok (.ldc_w 418, 3) := by decide +kernel
theorem dX7_isSeed_8 : decode cX7_isSeed 8 = .ok (.if_icmp .gt 7, 3) := by decide +kernel
theorem dX7_isSeed_11 : decode cX7_isSeed 11 = .ok (.iconst 1, 1) := by decide +kernel
theorem dX7_isSeed_12 : decode cX7_isSeed 12 = .ok (.goto 4, 3) := by decide +kernel
theorem dX7_isSeed_15 : decode cX7_isSeed 15 = .ok (.iconst 0, 1) := by decide +kernel
theorem dX7_isSeed_16 : decode cX7_isSeed 16 = .ok (.ireturn, 1) := by decide +kernel
theorem dX7_isSlot_0 : decode cX7_isSlot 0 = .ok (.iload_n 0, 1) := by decide +kernel
theorem dX7_isSlot_1 : decode cX7_isSlot 1 = .ok (.ifCond .lt 12, 3) := by decide +kernel
theorem dX7_isSlot_4 : decode cX7_isSlot 4 = .ok (.iload_n 0, 1) := by decide +kernel
theorem dX7_isSlot_5 : decode cX7_isSlot 5 = .ok (.iconst 4, 1) := by decide +kernel
theorem dX7_isSlot_6 : decode cX7_isSlot 6 = .ok (.if_icmp .ge 7, 3) := by decide +kernel
theorem dX7_isSlot_9 : decode cX7_isSlot 9 = .ok (.iconst 1, 1) := by decide +kernel
theorem dX7_isSlot_10 : decode cX7_isSlot 10 = .ok (.goto 4, 3) := by decide +kernel
theorem dX7_isSlot_13 : decode cX7_isSlot 13 = .ok (.iconst 0, 1) := by decide +kernel
theorem dX7_isSlot_14 : decode cX7_isSlot 14 = .ok (.ireturn, 1) := by decide +kernel
theorem dX7_isFogHour_0 : decode cX7_isFogHour 0 = .ok (.aload_n 0, 1) := by decide +kernel
theorem dX7_isFogHour_1 : decode cX7_isFogHour 1 = .ok (.getfield 19, 3) := by decide +kernel
theorem dX7_isFogHour_4 : decode cX7_isFogHour 4 = .ok (.iload_n 1, 1) := by decide +kernel
theorem dX7_isFogHour_5 : decode cX7_isFogHour 5 = .ok (.invokevirtual 149, 3) := by decide +kernel
theorem dX7_isFogHour_8 : decode cX7_isFogHour 8 = .ok (.ifCond .eq 13, 3) := by decide +kernel
theorem dX7_isFogHour_21 : decode cX7_isFogHour 21 = .ok (.iconst 0, 1) := by decide +kernel
theorem dX7_isFogHour_22 : decode cX7_isFogHour 22 = .ok (.ireturn, 1) := by decide +kernel
theorem dX7_areTwo_0 : decode cX7_areTwo 0 = .ok (.aload_n 0, 1) := by decide +kernel
theorem dX7_areTwo_1 : decode cX7_areTwo 1 = .ok (.getfield 19, 3) := by decide +kernel
theorem dX7_areTwo_4 : decode cX7_areTwo 4 = .ok (.iload_n 1, 1) := by decide +kernel
theorem dX7_areTwo_5 : decode cX7_areTwo 5 = .ok (.invokevirtual 122, 3) := by decide +kernel
theorem dX7_areTwo_8 : decode cX7_areTwo 8 = .ok (.ifCond .eq 23, 3) := by decide +kernel
theorem dX7_areTwo_31 : decode cX7_areTwo 31 = .ok (.iconst 0, 1) := by decide +kernel
theorem dX7_areTwo_32 : decode cX7_areTwo 32 = .ok (.ireturn, 1) := by decide +kernel
theorem dX7_refusalOfSeen_0 : decode cX7_refusalOfSeen 0 = .ok (.iload_n 1, 1) := by decide +kernel
theorem dX7_refusalOfSeen_1 : decode cX7_refusalOfSeen 1 = .ok (.invokestatic 389, 3) := by decide +kernel
theorem dX7_refusalOfSeen_4 : decode cX7_refusalOfSeen 4 = .ok (.ifCond .eq 7, 3) := by decide +kernel
theorem dX7_refusalOfSeen_7 : decode cX7_refusalOfSeen 7 = .ok (.iload_n 2, 1) := by decide +kernel
theorem dX7_refusalOfSeen_8 : decode cX7_refusalOfSeen 8 = .ok (.ifCond .ne 6, 3) := by decide +kernel
theorem dX7_refusalOfSeen_11 : decode cX7_refusalOfSeen 11 = .ok (.bipush (-2), 2) := by decide +kernel
theorem dX7_refusalOfSeen_13 : decode cX7_refusalOfSeen 13 = .ok (.ireturn, 1) := by decide +kernel
theorem dX7_slotsWithRow_0 : decode cX7_slotsWithRow 0 = .ok (.iconst 0, 1) := by decide +kernel
theorem dX7_slotsWithRow_1 : decode cX7_slotsWithRow 1 = .ok (.istore_n 1, 1) := by decide +kernel
theorem dX7_slotsWithRow_2 : decode cX7_slotsWithRow 2 = .ok (.iconst 0, 1) := by decide +kernel
theorem dX7_slotsWithRow_3 : decode cX7_slotsWithRow 3 = .ok (.istore_n 2, 1) := by decide +kernel
theorem dX7_slotsWithRow_4 : decode cX7_slotsWithRow 4 = .ok (.iload_n 2, 1) := by decide +kernel
theorem dX7_slotsWithRow_5 : decode cX7_slotsWithRow 5 = .ok (.iconst 4, 1) := by decide +kernel
theorem dX7_slotsWithRow_6 : decode cX7_slotsWithRow 6 = .ok (.if_icmp .ge 21, 3) := by decide +kernel
theorem dX7_slotsWithRow_9 : decode cX7_slotsWithRow 9 = .ok (.aload_n 0, 1) := by decide +kernel
theorem dX7_slotsWithRow_10 : decode cX7_slotsWithRow 10 = .ok (.getfield 32, 3) := by decide +kernel
theorem dX7_slotsWithRow_13 : decode cX7_slotsWithRow 13 = .ok (.iload_n 2, 1) := by decide +kernel
theorem dX7_slotsWithRow_14 : decode cX7_slotsWithRow 14 = .ok (.aaload, 1) := by decide +kernel
theorem dX7_slotsWithRow_15 : decode cX7_slotsWithRow 15 = .ok (.ifnull 6, 3) := by decide +kernel
theorem dX7_slotsWithRow_21 : decode cX7_slotsWithRow 21 = .ok (.iinc 2 1, 3) := by decide +kernel
theorem dX7_slotsWithRow_24 : decode cX7_slotsWithRow 24 = .ok (.goto (-20), 3) := by decide +kernel
theorem dX7_slotsWithRow_27 : decode cX7_slotsWithRow 27 = .ok (.iload_n 1, 1) := by decide +kernel
theorem dX7_slotsWithRow_28 : decode cX7_slotsWithRow 28 = .ok (.ireturn, 1) := by decide +kernel
theorem dJ7_fill_d0a16_0 : decode cJ7_fill_d0a16 0 = .ok (.iconst 0, 1) := by decide +kernel
theorem dJ7_fill_d0a16_1 : decode cJ7_fill_d0a16 1 = .ok (.istore_n 3, 1) := by decide +kernel
theorem dJ7_fill_d0a16_2 : decode cJ7_fill_d0a16 2 = .ok (.aload_n 0, 1) := by decide +kernel
theorem dJ7_fill_d0a16_3 : decode cJ7_fill_d0a16 3 = .ok (.arraylength, 1) := by decide +kernel
theorem dJ7_fill_d0a16_4 : decode cJ7_fill_d0a16 4 = .ok (.istore 4, 2) := by decide +kernel
theorem dJ7_fill_d0a16_6 : decode cJ7_fill_d0a16 6 = .ok (.iload_n 3, 1) := by decide +kernel
theorem dJ7_fill_d0a16_7 : decode cJ7_fill_d0a16 7 = .ok (.iload 4, 2) := by decide +kernel
theorem dJ7_fill_d0a16_9 : decode cJ7_fill_d0a16 9 = .ok (.if_icmp .ge 13, 3) := by decide +kernel
theorem dJ7_fill_d0a16_12 : decode cJ7_fill_d0a16 12 = .ok (.aload_n 0, 1) := by decide +kernel
theorem dJ7_fill_d0a16_13 : decode cJ7_fill_d0a16 13 = .ok (.iload_n 3, 1) := by decide +kernel
theorem dJ7_fill_d0a16_14 : decode cJ7_fill_d0a16 14 = .ok (.lload_n 1, 1) := by decide +kernel
theorem dJ7_fill_d0a16_15 : decode cJ7_fill_d0a16 15 = .ok (.lastore, 1) := by decide +kernel
theorem dJ7_fill_d0a16_16 : decode cJ7_fill_d0a16 16 = .ok (.iinc 3 1, 3) := by decide +kernel
theorem dJ7_fill_d0a16_19 : decode cJ7_fill_d0a16 19 = .ok (.goto (-13), 3) := by decide +kernel
theorem dJ7_fill_d0a16_22 : decode cJ7_fill_d0a16 22 = .ok (.return_, 1) := by decide +kernel
theorem dJ7_fill_53178_0 : decode cJ7_fill_53178 0 = .ok (.iconst 0, 1) := by decide +kernel
theorem dJ7_fill_53178_1 : decode cJ7_fill_53178 1 = .ok (.istore_n 2, 1) := by decide +kernel
theorem dJ7_fill_53178_2 : decode cJ7_fill_53178 2 = .ok (.aload_n 0, 1) := by decide +kernel
theorem dJ7_fill_53178_3 : decode cJ7_fill_53178 3 = .ok (.arraylength, 1) := by decide +kernel
theorem dJ7_fill_53178_4 : decode cJ7_fill_53178 4 = .ok (.istore_n 3, 1) := by decide +kernel
theorem dJ7_fill_53178_5 : decode cJ7_fill_53178 5 = .ok (.iload_n 2, 1) := by decide +kernel
theorem dJ7_fill_53178_6 : decode cJ7_fill_53178 6 = .ok (.iload_n 3, 1) := by decide +kernel
theorem dJ7_fill_53178_7 : decode cJ7_fill_53178 7 = .ok (.if_icmp .ge 13, 3) := by decide +kernel
theorem dJ7_fill_53178_10 : decode cJ7_fill_53178 10 = .ok (.aload_n 0, 1) := by decide +kernel
theorem dJ7_fill_53178_11 : decode cJ7_fill_53178 11 = .ok (.iload_n 2, 1) := by decide +kernel
theorem dJ7_fill_53178_12 : decode cJ7_fill_53178 12 = .ok (.iload_n 1, 1) := by decide +kernel
theorem dJ7_fill_53178_13 : decode cJ7_fill_53178 13 = .ok (.iastore, 1) := by decide +kernel
theorem dJ7_fill_53178_14 : decode cJ7_fill_53178 14 = .ok (.iinc 2 1, 3) := by decide +kernel
theorem dJ7_fill_53178_17 : decode cJ7_fill_53178 17 = .ok (.goto (-12), 3) := by decide +kernel
theorem dJ7_fill_53178_20 : decode cJ7_fill_53178 20 = .ok (.return_, 1) := by decide +kernel
theorem layX2 : ∀ k, k < 16 → u_lay RX2 TX2 k ∈ tblG := fun k hk => match k, hk with
  | 0, _ => gw1 147 (by decide +kernel) (by decide +kernel)
  | 1, _ => gw1 149 (by decide +kernel) (by decide +kernel)
  | 2, _ => gw1 151 (by decide +kernel) (by decide +kernel)
  | 3, _ => gw1 153 (by decide +kernel) (by decide +kernel)
  | 4, _ => gw1 155 (by decide +kernel) (by decide +kernel)
  | 5, _ => gw1 157 (by decide +kernel) (by decide +kernel)
  | 6, _ => gw1 159 (by decide +kernel) (by decide +kernel)
  | 7, _ => gw1 161 (by decide +kernel) (by decide +kernel)
  | 8, _ => gw1 163 (by decide +kernel) (by decide +kernel)
  | 9, _ => gw1 165 (by decide +kernel) (by decide +kernel)
  | 10, _ => gw1 167 (by decide +kernel) (by decide +kernel)
  | 11, _ => gw1 169 (by decide +kernel) (by decide +kernel)
  | 12, _ => gw1 171 (by decide +kernel) (by decide +kernel)
  | 13, _ => gw1 173 (by decide +kernel) (by decide +kernel)
  | 14, _ => gw1 175 (by decide +kernel) (by decide +kernel)
  | 15, _ => gw1 177 (by decide +kernel) (by decide +kernel)
  | k + 16, hk => absurd hk (by omega)
theorem clX2 : CLk 2 RX2 TX2 16 tyX2 := ⟨rfl, fun w hw => by
  obtain ⟨k, hk, rfl⟩ := List.mem_map.mp hw
  exact layX2 k (List.mem_range.mp hk), tyX2_ok, nmX2⟩
theorem wd0 : Cond.fieldLink RX2 24 RX2 "inns" "I" ∈ tblG := gw1 102 (by decide +kernel) (by decide +kernel)
theorem fk_X2_24 : FLk RX2 24 2 4 (.int) false := ⟨RX2, TX2, 16, tyX2, clX2, by decide, rfl, rfl, rfl, Or.inl wd0⟩
theorem wd1 : Cond.fieldLink RX2 27 RX2 "posts" "I" ∈ tblG := gw1 105 (by decide +kernel) (by decide +kernel)
theorem fk_X2_27 : FLk RX2 27 2 5 (.int) false := ⟨RX2, TX2, 16, tyX2, clX2, by decide, rfl, rfl, rfl, Or.inl wd1⟩
theorem wd2 : Cond.fieldLink RX2 36 RX2 "walkers" "I" ∈ tblG := gw1 116 (by decide +kernel) (by decide +kernel)
theorem fk_X2_36 : FLk RX2 36 2 8 (.int) false := ⟨RX2, TX2, 16, tyX2, clX2, by decide, rfl, rfl, rfl, Or.inl wd2⟩
theorem wd3 : Cond.methodLink RX2 88 yX2_hasInn ∈ tblG := gw3 152 (by decide +kernel) (by decide +kernel)
theorem wd4 : Cond.instanceMethod yX2_hasInn ∈ tblG := gw3 90 (by decide +kernel) (by decide +kernel)
theorem wd5 : Cond.selects RX2 yX2_hasInn yX2_hasInn ∈ tblG := gw3 91 (by decide +kernel) (by decide +kernel)
theorem wd6 : Cond.initialized RX2 ∈ tblG := gw1 3 (by decide +kernel) (by decide +kernel)
theorem wd7 : Cond.code yX2_hasInn cX2_hasInn 2 (some .boolean) ∈ tblG := gw3 92 (by decide +kernel) (by decide +kernel)
theorem pl_X2_hasInn : Plain yX2_hasInn 1 := ⟨by decide, by decide, by decide +kernel⟩
theorem lk_X2_88 : LkV RX2 88 2 yX2_hasInn cX2_hasInn 2 (some .boolean) 1 := ⟨⟨TX2, 16, rfl⟩, wd3, wd4, wd5, wd6, wd7, pl_X2_hasInn⟩
theorem wd8 : Cond.methodLink RX2 84 yX2_hasPost ∈ tblG := gw3 151 (by decide +kernel) (by decide +kernel)
theorem wd9 : Cond.instanceMethod yX2_hasPost ∈ tblG := gw3 98 (by decide +kernel) (by decide +kernel)
theorem wd10 : Cond.selects RX2 yX2_hasPost yX2_hasPost ∈ tblG := gw3 99 (by decide +kernel) (by decide +kernel)
theorem wd11 : Cond.code yX2_hasPost cX2_hasPost 2 (some .boolean) ∈ tblG := gw3 100 (by decide +kernel) (by decide +kernel)
theorem pl_X2_hasPost : Plain yX2_hasPost 1 := ⟨by decide, by decide, by decide +kernel⟩
theorem lk_X2_84 : LkV RX2 84 2 yX2_hasPost cX2_hasPost 2 (some .boolean) 1 := ⟨⟨TX2, 16, rfl⟩, wd8, wd9, wd10, wd6, wd11, pl_X2_hasPost⟩
theorem wd12 : Cond.fieldLink RX2 9 RX2 "lines" "I" ∈ tblG := gw1 85 (by decide +kernel) (by decide +kernel)
theorem fk_X2_9 : FLk RX2 9 2 0 (.int) false := ⟨RX2, TX2, 16, tyX2, clX2, by decide, rfl, rfl, rfl, Or.inl wd12⟩
theorem wd13 : Cond.methodLink RX2 91 yX2_isTold ∈ tblG := gw3 130 (by decide +kernel) (by decide +kernel)
theorem wd14 : Cond.instanceMethod yX2_isTold ∈ tblG := gw3 131 (by decide +kernel) (by decide +kernel)
theorem wd15 : Cond.selects RX2 yX2_isTold yX2_isTold ∈ tblG := gw3 132 (by decide +kernel) (by decide +kernel)
theorem wd16 : Cond.code yX2_isTold cX2_isTold 1 (some .boolean) ∈ tblG := gw3 133 (by decide +kernel) (by decide +kernel)
theorem pl_X2_isTold : Plain yX2_isTold 0 := ⟨by decide, by decide, by decide +kernel⟩
theorem lk_X2_91 : LkV RX2 91 2 yX2_isTold cX2_isTold 1 (some .boolean) 0 := ⟨⟨TX2, 16, rfl⟩, wd13, wd14, wd15, wd6, wd16, pl_X2_isTold⟩
theorem wd17 : Cond.methodLink RX2 95 yX2_hasHour ∈ tblG := gw3 165 (by decide +kernel) (by decide +kernel)
theorem wd18 : Cond.instanceMethod yX2_hasHour ∈ tblG := gw3 127 (by decide +kernel) (by decide +kernel)
theorem wd19 : Cond.selects RX2 yX2_hasHour yX2_hasHour ∈ tblG := gw3 128 (by decide +kernel) (by decide +kernel)
theorem wd20 : Cond.code yX2_hasHour cX2_hasHour 2 (some .boolean) ∈ tblG := gw3 129 (by decide +kernel) (by decide +kernel)
theorem pl_X2_hasHour : Plain yX2_hasHour 1 := ⟨by decide, by decide, by decide +kernel⟩
theorem lk_X2_95 : LkV RX2 95 2 yX2_hasHour cX2_hasHour 2 (some .boolean) 1 := ⟨⟨TX2, 16, rfl⟩, wd17, wd18, wd19, wd6, wd20, pl_X2_hasHour⟩
theorem wd21 : Cond.constant RX7 418 (2000000000) ∈ tblG := gw5 185 (by decide +kernel) (by decide +kernel)
theorem layX7 : ∀ k, k < 12 → u_lay RX7 TX7 k ∈ tblG := fun k hk => match k, hk with
  | 0, _ => gw2 36 (by decide +kernel) (by decide +kernel)
  | 1, _ => gw2 38 (by decide +kernel) (by decide +kernel)
  | 2, _ => gw2 40 (by decide +kernel) (by decide +kernel)
  | 3, _ => gw2 42 (by decide +kernel) (by decide +kernel)
  | 4, _ => gw2 44 (by decide +kernel) (by decide +kernel)
  | 5, _ => gw2 46 (by decide +kernel) (by decide +kernel)
  | 6, _ => gw2 48 (by decide +kernel) (by decide +kernel)
  | 7, _ => gw2 50 (by decide +kernel) (by decide +kernel)
  | 8, _ => gw2 52 (by decide +kernel) (by decide +kernel)
  | 9, _ => gw2 54 (by decide +kernel) (by decide +kernel)
  | 10, _ => gw2 56 (by decide +kernel) (by decide +kernel)
  | 11, _ => gw2 58 (by decide +kernel) (by decide +kernel)
  | k + 12, hk => absurd hk (by omega)
theorem clX7 : CLk 7 RX7 TX7 12 tyX7 := ⟨rfl, fun w hw => by
  obtain ⟨k, hk, rfl⟩ := List.mem_map.mp hw
  exact layX7 k (List.mem_range.mp hk), tyX7_ok, nmX7⟩
theorem wd22 : Cond.fieldLink RX7 19 RX7 "heath" "LObligingPosts$Heath;" ∈ tblG := gw2 25 (by decide +kernel) (by decide +kernel)
theorem fk_X7_19 : FLk RX7 19 7 1 (.object "ObligingPosts$Heath") true := ⟨RX7, TX7, 12, tyX7, clX7, by decide, rfl, rfl, rfl, Or.inl wd22⟩
theorem wd23 : Cond.methodLink RX7 149 yX2_hasHourAhead ∈ tblG := gw3 161 (by decide +kernel) (by decide +kernel)
theorem wd24 : Cond.instanceMethod yX2_hasHourAhead ∈ tblG := gw3 162 (by decide +kernel) (by decide +kernel)
theorem wd25 : Cond.selects RX2 yX2_hasHourAhead yX2_hasHourAhead ∈ tblG := gw3 163 (by decide +kernel) (by decide +kernel)
theorem wd26 : Cond.code yX2_hasHourAhead cX2_hasHourAhead 2 (some .boolean) ∈ tblG := gw3 164 (by decide +kernel) (by decide +kernel)
theorem pl_X2_hasHourAhead : Plain yX2_hasHourAhead 1 := ⟨by decide, by decide, by decide +kernel⟩
theorem lk_X7_149 : LkV RX7 149 2 yX2_hasHourAhead cX2_hasHourAhead 2 (some .boolean) 1 := ⟨⟨TX2, 16, rfl⟩, wd23, wd24, wd25, wd6, wd26, pl_X2_hasHourAhead⟩
theorem wd27 : Cond.methodLink RX7 122 yX2_hasWalker ∈ tblG := gw3 115 (by decide +kernel) (by decide +kernel)
theorem wd28 : Cond.instanceMethod yX2_hasWalker ∈ tblG := gw3 116 (by decide +kernel) (by decide +kernel)
theorem wd29 : Cond.selects RX2 yX2_hasWalker yX2_hasWalker ∈ tblG := gw3 117 (by decide +kernel) (by decide +kernel)
theorem wd30 : Cond.code yX2_hasWalker cX2_hasWalker 2 (some .boolean) ∈ tblG := gw3 118 (by decide +kernel) (by decide +kernel)
theorem pl_X2_hasWalker : Plain yX2_hasWalker 1 := ⟨by decide, by decide, by decide +kernel⟩
theorem lk_X7_122 : LkV RX7 122 2 yX2_hasWalker cX2_hasWalker 2 (some .boolean) 1 := ⟨⟨TX2, 16, rfl⟩, wd27, wd28, wd29, wd6, wd30, pl_X2_hasWalker⟩
theorem wd31 : Cond.methodLink RX7 389 yX7_isSlot ∈ tblG := gw5 27 (by decide +kernel) (by decide +kernel)
theorem wd32 : Cond.static yX7_isSlot ∈ tblG := gw5 28 (by decide +kernel) (by decide +kernel)
theorem wd33 : Cond.initialized RX7 ∈ tblG := gw1 1 (by decide +kernel) (by decide +kernel)
theorem wd34 : Cond.code yX7_isSlot cX7_isSlot 1 (some .boolean) ∈ tblG := gw5 29 (by decide +kernel) (by decide +kernel)
theorem pl_X7_isSlot : Plain yX7_isSlot 1 := ⟨by decide, by decide, by decide +kernel⟩
theorem lk_X7_389 : LkS RX7 389 yX7_isSlot cX7_isSlot 1 (some .boolean) 1 := ⟨wd31, wd32, wd33, wd34, pl_X7_isSlot⟩
theorem wd35 : Cond.methodLink RX7 99 yX2_hasInn ∈ tblG := gw3 89 (by decide +kernel) (by decide +kernel)
theorem lk_X7_99 : LkV RX7 99 2 yX2_hasInn cX2_hasInn 2 (some .boolean) 1 := ⟨⟨TX2, 16, rfl⟩, wd35, wd4, wd5, wd6, wd7, pl_X2_hasInn⟩
theorem wd36 : Cond.methodLink RX7 106 yX2_hasPost ∈ tblG := gw3 97 (by decide +kernel) (by decide +kernel)
theorem lk_X7_106 : LkV RX7 106 2 yX2_hasPost cX2_hasPost 2 (some .boolean) 1 := ⟨⟨TX2, 16, rfl⟩, wd36, wd9, wd10, wd6, wd11, pl_X2_hasPost⟩
theorem wd37 : Cond.methodLink RX7 143 yX2_hasPlace ∈ tblG := gw3 147 (by decide +kernel) (by decide +kernel)
theorem wd38 : Cond.instanceMethod yX2_hasPlace ∈ tblG := gw3 148 (by decide +kernel) (by decide +kernel)
theorem wd39 : Cond.selects RX2 yX2_hasPlace yX2_hasPlace ∈ tblG := gw3 149 (by decide +kernel) (by decide +kernel)
theorem wd40 : Cond.code yX2_hasPlace cX2_hasPlace 2 (some .boolean) ∈ tblG := gw3 150 (by decide +kernel) (by decide +kernel)
theorem pl_X2_hasPlace : Plain yX2_hasPlace 1 := ⟨by decide, by decide, by decide +kernel⟩
theorem lk_X7_143 : LkV RX7 143 2 yX2_hasPlace cX2_hasPlace 2 (some .boolean) 1 := ⟨⟨TX2, 16, rfl⟩, wd37, wd38, wd39, wd6, wd40, pl_X2_hasPlace⟩
theorem wd41 : Cond.methodLink RX7 134 yX2_hasHour ∈ tblG := gw3 126 (by decide +kernel) (by decide +kernel)
theorem lk_X7_134 : LkV RX7 134 2 yX2_hasHour cX2_hasHour 2 (some .boolean) 1 := ⟨⟨TX2, 16, rfl⟩, wd41, wd18, wd19, wd6, wd20, pl_X2_hasHour⟩
theorem wd42 : Cond.methodLink RX7 198 yX2_isTold ∈ tblG := gw4 64 (by decide +kernel) (by decide +kernel)
theorem lk_X7_198 : LkV RX7 198 2 yX2_isTold cX2_isTold 1 (some .boolean) 0 := ⟨⟨TX2, 16, rfl⟩, wd42, wd14, wd15, wd6, wd16, pl_X2_isTold⟩
theorem wd43 : Cond.methodLink RX7 212 yX7_areTwo ∈ tblG := gw4 94 (by decide +kernel) (by decide +kernel)
theorem wd44 : Cond.instanceMethod yX7_areTwo ∈ tblG := gw4 96 (by decide +kernel) (by decide +kernel)
theorem wd45 : Cond.selects RX7 yX7_areTwo yX7_areTwo ∈ tblG := gw0 25 (by decide +kernel) (by decide +kernel)
theorem wd46 : Cond.code yX7_areTwo cX7_areTwo 3 (some .boolean) ∈ tblG := gw4 97 (by decide +kernel) (by decide +kernel)
theorem pl_X7_areTwo : Plain yX7_areTwo 2 := ⟨by decide, by decide, by decide +kernel⟩
theorem lk_X7_212 : LkV RX7 212 7 yX7_areTwo cX7_areTwo 3 (some .boolean) 2 := ⟨⟨TX7, 12, rfl⟩, wd43, wd44, wd45, wd33, wd46, pl_X7_areTwo⟩
theorem wd47 : Cond.methodLink RX7 288 yX7_refusalOfSeen ∈ tblG := gw5 23 (by decide +kernel) (by decide +kernel)
theorem wd48 : Cond.instanceMethod yX7_refusalOfSeen ∈ tblG := gw5 25 (by decide +kernel) (by decide +kernel)
theorem wd49 : Cond.selects RX7 yX7_refusalOfSeen yX7_refusalOfSeen ∈ tblG := gw0 31 (by decide +kernel) (by decide +kernel)
theorem wd50 : Cond.code yX7_refusalOfSeen cX7_refusalOfSeen 3 (some .int) ∈ tblG := gw5 26 (by decide +kernel) (by decide +kernel)
theorem pl_X7_refusalOfSeen : Plain yX7_refusalOfSeen 2 := ⟨by decide, by decide, by decide +kernel⟩
theorem lk_X7_288 : LkV RX7 288 7 yX7_refusalOfSeen cX7_refusalOfSeen 3 (some .int) 2 := ⟨⟨TX7, 12, rfl⟩, wd47, wd48, wd49, wd33, wd50, pl_X7_refusalOfSeen⟩
theorem wd51 : Cond.constantLong RX7 330 (-2) ∈ tblG := gw5 129 (by decide +kernel) (by decide +kernel)
theorem wd52 : Cond.methodLink RX7 327 yX7_isFogHour ∈ tblG := gw5 125 (by decide +kernel) (by decide +kernel)
theorem wd53 : Cond.instanceMethod yX7_isFogHour ∈ tblG := gw5 127 (by decide +kernel) (by decide +kernel)
theorem wd54 : Cond.selects RX7 yX7_isFogHour yX7_isFogHour ∈ tblG := gw0 42 (by decide +kernel) (by decide +kernel)
theorem wd55 : Cond.code yX7_isFogHour cX7_isFogHour 2 (some .boolean) ∈ tblG := gw5 128 (by decide +kernel) (by decide +kernel)
theorem pl_X7_isFogHour : Plain yX7_isFogHour 1 := ⟨by decide, by decide, by decide +kernel⟩
theorem lk_X7_327 : LkV RX7 327 7 yX7_isFogHour cX7_isFogHour 2 (some .boolean) 1 := ⟨⟨TX7, 12, rfl⟩, wd52, wd53, wd54, wd33, wd55, pl_X7_isFogHour⟩
theorem wd56 : Cond.methodLink RX7 361 yX7_isSeed ∈ tblG := gw5 182 (by decide +kernel) (by decide +kernel)
theorem wd57 : Cond.static yX7_isSeed ∈ tblG := gw5 183 (by decide +kernel) (by decide +kernel)
theorem wd58 : Cond.code yX7_isSeed cX7_isSeed 1 (some .boolean) ∈ tblG := gw5 184 (by decide +kernel) (by decide +kernel)
theorem pl_X7_isSeed : Plain yX7_isSeed 1 := ⟨by decide, by decide, by decide +kernel⟩
theorem lk_X7_361 : LkS RX7 361 yX7_isSeed cX7_isSeed 1 (some .boolean) 1 := ⟨wd56, wd57, wd33, wd58, pl_X7_isSeed⟩
theorem wd59 : Cond.methodLink RX7 246 yX7_isFewInARow ∈ tblG := gw4 187 (by decide +kernel) (by decide +kernel)
theorem wd60 : Cond.static yX7_isFewInARow ∈ tblG := gw4 188 (by decide +kernel) (by decide +kernel)
theorem wd61 : Cond.code yX7_isFewInARow cX7_isFewInARow 1 (some .boolean) ∈ tblG := gw4 189 (by decide +kernel) (by decide +kernel)
theorem pl_X7_isFewInARow : Plain yX7_isFewInARow 1 := ⟨by decide, by decide, by decide +kernel⟩
theorem lk_X7_246 : LkS RX7 246 yX7_isFewInARow cX7_isFewInARow 1 (some .boolean) 1 := ⟨wd59, wd60, wd33, wd61, pl_X7_isFewInARow⟩
theorem wd62 : Cond.fieldLink RX7 12 RX7 "tape" "LObligingPosts$Tape;" ∈ tblG := gw2 24 (by decide +kernel) (by decide +kernel)
theorem fk_X7_12 : FLk RX7 12 7 0 (.object "ObligingPosts$Tape") true := ⟨RX7, TX7, 12, tyX7, clX7, by decide, rfl, rfl, rfl, Or.inl wd62⟩
theorem wd63 : Cond.fieldLink RX7 23 RX7 "draft" "LObligingPosts$Heath;" ∈ tblG := gw2 26 (by decide +kernel) (by decide +kernel)
theorem fk_X7_23 : FLk RX7 23 7 2 (.object "ObligingPosts$Heath") true := ⟨RX7, TX7, 12, tyX7, clX7, by decide, rfl, rfl, rfl, Or.inl wd63⟩
theorem wd64 : Cond.methodLink RX7 81 yX6_readInto ∈ tblG := gw2 77 (by decide +kernel) (by decide +kernel)
theorem wd65 : Cond.instanceMethod yX6_readInto ∈ tblG := gw2 78 (by decide +kernel) (by decide +kernel)
theorem wd66 : Cond.selects RX6 yX6_readInto yX6_readInto ∈ tblG := gw2 79 (by decide +kernel) (by decide +kernel)
theorem wd67 : Cond.initialized RX6 ∈ tblG := gw1 2 (by decide +kernel) (by decide +kernel)
theorem wd68 : Cond.code yX6_readInto cX6_readInto 3 none ∈ tblG := gw2 80 (by decide +kernel) (by decide +kernel)
theorem pl_X6_readInto : Plain yX6_readInto 1 := ⟨by decide, by decide, by decide +kernel⟩
theorem lk_X7_81 : LkV RX7 81 6 yX6_readInto cX6_readInto 3 none 1 := ⟨⟨TX6, 8, rfl⟩, wd64, wd65, wd66, wd67, wd68, pl_X6_readInto⟩
theorem wd69 : Cond.methodLink RX6 37 yX2_clear ∈ tblG := gw2 81 (by decide +kernel) (by decide +kernel)
theorem wd70 : Cond.instanceMethod yX2_clear ∈ tblG := gw2 82 (by decide +kernel) (by decide +kernel)
theorem wd71 : Cond.selects RX2 yX2_clear yX2_clear ∈ tblG := gw2 83 (by decide +kernel) (by decide +kernel)
theorem wd72 : Cond.code yX2_clear cX2_clear 1 none ∈ tblG := gw2 84 (by decide +kernel) (by decide +kernel)
theorem pl_X2_clear : Plain yX2_clear 0 := ⟨by decide, by decide, by decide +kernel⟩
theorem lk_X6_37 : LkV RX6 37 2 yX2_clear cX2_clear 1 none 0 := ⟨⟨TX2, 16, rfl⟩, wd69, wd70, wd71, wd6, wd72, pl_X2_clear⟩
theorem wd73 : Cond.fieldLink RX2 15 RX2 "hours" "I" ∈ tblG := gw1 88 (by decide +kernel) (by decide +kernel)
theorem fk_X2_15 : FLk RX2 15 2 1 (.int) false := ⟨RX2, TX2, 16, tyX2, clX2, by decide, rfl, rfl, rfl, Or.inl wd73⟩
theorem wd74 : Cond.fieldLink RX2 18 RX2 "law" "I" ∈ tblG := gw1 93 (by decide +kernel) (by decide +kernel)
theorem fk_X2_18 : FLk RX2 18 2 2 (.int) false := ⟨RX2, TX2, 16, tyX2, clX2, by decide, rfl, rfl, rfl, Or.inl wd74⟩
theorem wd75 : Cond.fieldLink RX2 21 RX2 "odds" "I" ∈ tblG := gw1 98 (by decide +kernel) (by decide +kernel)
theorem fk_X2_21 : FLk RX2 21 2 3 (.int) false := ⟨RX2, TX2, 16, tyX2, clX2, by decide, rfl, rfl, rfl, Or.inl wd75⟩
theorem wd76 : Cond.fieldLink RX2 30 RX2 "roads" "I" ∈ tblG := gw1 110 (by decide +kernel) (by decide +kernel)
theorem fk_X2_30 : FLk RX2 30 2 6 (.int) false := ⟨RX2, TX2, 16, tyX2, clX2, by decide, rfl, rfl, rfl, Or.inl wd76⟩
theorem wd77 : Cond.fieldLink RX2 33 RX2 "armLines" "I" ∈ tblG := gw1 113 (by decide +kernel) (by decide +kernel)
theorem fk_X2_33 : FLk RX2 33 2 7 (.int) false := ⟨RX2, TX2, 16, tyX2, clX2, by decide, rfl, rfl, rfl, Or.inl wd77⟩
theorem wd78 : Cond.fieldLink RX2 43 RX2 "roadsOf" "[I" ∈ tblG := gw1 125 (by decide +kernel) (by decide +kernel)
theorem fk_X2_43 : FLk RX2 43 2 10 (.array .int) true := ⟨RX2, TX2, 16, tyX2, clX2, by decide, rfl, rfl, rfl, Or.inl wd78⟩
theorem wd79 : Cond.methodLink RX2 65 yJ7_fill_53178 ∈ tblG := gw2 85 (by decide +kernel) (by decide +kernel)
theorem wd80 : Cond.static yJ7_fill_53178 ∈ tblG := gw2 86 (by decide +kernel) (by decide +kernel)
theorem wd81 : Cond.initialized RJ7 ∈ tblG := gw1 9 (by decide +kernel) (by decide +kernel)
theorem wd82 : Cond.code yJ7_fill_53178 cJ7_fill_53178 4 none ∈ tblG := gw2 87 (by decide +kernel) (by decide +kernel)
theorem pl_J7_fill_53178 : Plain yJ7_fill_53178 2 := ⟨by decide, by decide, by decide +kernel⟩
theorem lk_X2_65 : LkS RX2 65 yJ7_fill_53178 cJ7_fill_53178 4 none 2 := ⟨wd79, wd80, wd81, wd82, pl_J7_fill_53178⟩
theorem wd83 : Cond.fieldLink RX2 49 RX2 "toldArms" "[I" ∈ tblG := gw1 131 (by decide +kernel) (by decide +kernel)
theorem fk_X2_49 : FLk RX2 49 2 12 (.array .int) true := ⟨RX2, TX2, 16, tyX2, clX2, by decide, rfl, rfl, rfl, Or.inl wd83⟩
theorem wd84 : Cond.fieldLink RX2 61 RX2 "acts" "LObligingPosts$Acts;" ∈ tblG := gw1 144 (by decide +kernel) (by decide +kernel)
theorem fk_X2_61 : FLk RX2 61 2 15 (.object "ObligingPosts$Acts") true := ⟨RX2, TX2, 16, tyX2, clX2, by decide, rfl, rfl, rfl, Or.inl wd84⟩
theorem wd85 : Cond.methodLink RX2 71 yX0_clear ∈ tblG := gw2 88 (by decide +kernel) (by decide +kernel)
theorem wd86 : Cond.instanceMethod yX0_clear ∈ tblG := gw2 89 (by decide +kernel) (by decide +kernel)
theorem wd87 : Cond.selects RX0 yX0_clear yX0_clear ∈ tblG := gw2 90 (by decide +kernel) (by decide +kernel)
theorem wd88 : Cond.initialized RX0 ∈ tblG := gw1 4 (by decide +kernel) (by decide +kernel)
theorem wd89 : Cond.code yX0_clear cX0_clear 1 none ∈ tblG := gw2 91 (by decide +kernel) (by decide +kernel)
theorem pl_X0_clear : Plain yX0_clear 0 := ⟨by decide, by decide, by decide +kernel⟩
theorem lk_X2_71 : LkV RX2 71 0 yX0_clear cX0_clear 1 none 0 := ⟨⟨TX0, 3, rfl⟩, wd85, wd86, wd87, wd88, wd89, pl_X0_clear⟩
theorem layX0 : ∀ k, k < 3 → u_lay RX0 TX0 k ∈ tblG := fun k hk => match k, hk with
  | 0, _ => gw1 77 (by decide +kernel) (by decide +kernel)
  | 1, _ => gw1 79 (by decide +kernel) (by decide +kernel)
  | 2, _ => gw1 81 (by decide +kernel) (by decide +kernel)
  | k + 3, hk => absurd hk (by omega)
theorem clX0 : CLk 0 RX0 TX0 3 tyX0 := ⟨rfl, fun w hw => by
  obtain ⟨k, hk, rfl⟩ := List.mem_map.mp hw
  exact layX0 k (List.mem_range.mp hk), tyX0_ok, nmX0⟩
theorem wd90 : Cond.fieldLink RX0 9 RX0 "size" "I" ∈ tblG := gw1 73 (by decide +kernel) (by decide +kernel)
theorem fk_X0_9 : FLk RX0 9 0 0 (.int) false := ⟨RX0, TX0, 3, tyX0, clX0, by decide, rfl, rfl, rfl, Or.inl wd90⟩
theorem wd91 : Cond.fieldLink RX0 19 RX0 "times" "[I" ∈ tblG := gw1 76 (by decide +kernel) (by decide +kernel)
theorem fk_X0_19 : FLk RX0 19 0 2 (.array .int) true := ⟨RX0, TX0, 3, tyX0, clX0, by decide, rfl, rfl, rfl, Or.inl wd91⟩
theorem wd92 : Cond.methodLink RX0 22 yJ7_fill_53178 ∈ tblG := gw2 92 (by decide +kernel) (by decide +kernel)
theorem lk_X0_22 : LkS RX0 22 yJ7_fill_53178 cJ7_fill_53178 4 none 2 := ⟨wd92, wd80, wd81, wd82, pl_J7_fill_53178⟩
theorem layX6 : ∀ k, k < 8 → u_lay RX6 TX6 k ∈ tblG := fun k hk => match k, hk with
  | 0, _ => gw1 43 (by decide +kernel) (by decide +kernel)
  | 1, _ => gw1 45 (by decide +kernel) (by decide +kernel)
  | 2, _ => gw1 47 (by decide +kernel) (by decide +kernel)
  | 3, _ => gw1 49 (by decide +kernel) (by decide +kernel)
  | 4, _ => gw1 51 (by decide +kernel) (by decide +kernel)
  | 5, _ => gw1 53 (by decide +kernel) (by decide +kernel)
  | 6, _ => gw1 55 (by decide +kernel) (by decide +kernel)
  | 7, _ => gw1 57 (by decide +kernel) (by decide +kernel)
  | k + 8, hk => absurd hk (by omega)
theorem clX6 : CLk 6 RX6 TX6 8 tyX6 := ⟨rfl, fun w hw => by
  obtain ⟨k, hk, rfl⟩ := List.mem_map.mp hw
  exact layX6 k (List.mem_range.mp hk), tyX6_ok, nmX6⟩
theorem wd93 : Cond.fieldLink RX6 19 RX6 "fault" "I" ∈ tblG := gw1 35 (by decide +kernel) (by decide +kernel)
theorem fk_X6_19 : FLk RX6 19 6 2 (.int) false := ⟨RX6, TX6, 8, tyX6, clX6, by decide, rfl, rfl, rfl, Or.inl wd93⟩
theorem wd94 : Cond.fieldLink RX6 22 RX6 "faultPlace" "I" ∈ tblG := gw1 37 (by decide +kernel) (by decide +kernel)
theorem fk_X6_22 : FLk RX6 22 6 3 (.int) false := ⟨RX6, TX6, 8, tyX6, clX6, by decide, rfl, rfl, rfl, Or.inl wd94⟩
theorem wd95 : Cond.fieldLink RX6 31 RX6 "next" "I" ∈ tblG := gw1 41 (by decide +kernel) (by decide +kernel)
theorem fk_X6_31 : FLk RX6 31 6 6 (.int) false := ⟨RX6, TX6, 8, tyX6, clX6, by decide, rfl, rfl, rfl, Or.inl wd95⟩
theorem wd96 : Cond.methodLink RX6 42 yX6_take ∈ tblG := gw2 93 (by decide +kernel) (by decide +kernel)
theorem wd97 : Cond.instanceMethod yX6_take ∈ tblG := gw2 95 (by decide +kernel) (by decide +kernel)
theorem wd98 : Cond.selects RX6 yX6_take yX6_take ∈ tblG := gw0 0 (by decide +kernel) (by decide +kernel)
theorem wd99 : Cond.code yX6_take cX6_take 1 none ∈ tblG := gw2 96 (by decide +kernel) (by decide +kernel)
theorem pl_X6_take : Plain yX6_take 0 := ⟨by decide, by decide, by decide +kernel⟩
theorem lk_X6_42 : LkV RX6 42 6 yX6_take cX6_take 1 none 0 := ⟨⟨TX6, 8, rfl⟩, wd96, wd97, wd98, wd67, wd99, pl_X6_take⟩
theorem wd100 : Cond.fieldLink RX6 15 RX6 "size" "I" ∈ tblG := gw1 33 (by decide +kernel) (by decide +kernel)
theorem fk_X6_15 : FLk RX6 15 6 1 (.int) false := ⟨RX6, TX6, 8, tyX6, clX6, by decide, rfl, rfl, rfl, Or.inl wd100⟩
theorem wd101 : Cond.fieldLink RX6 28 RX6 "start" "I" ∈ tblG := gw1 40 (by decide +kernel) (by decide +kernel)
theorem fk_X6_28 : FLk RX6 28 6 5 (.int) false := ⟨RX6, TX6, 8, tyX6, clX6, by decide, rfl, rfl, rfl, Or.inl wd101⟩
theorem wd102 : Cond.fieldLink RX6 34 RX6 "value" "I" ∈ tblG := gw1 42 (by decide +kernel) (by decide +kernel)
theorem fk_X6_34 : FLk RX6 34 6 7 (.int) false := ⟨RX6, TX6, 8, tyX6, clX6, by decide, rfl, rfl, rfl, Or.inl wd102⟩
theorem wd103 : Cond.fieldLink RX6 25 RX6 "kind" "I" ∈ tblG := gw1 39 (by decide +kernel) (by decide +kernel)
theorem fk_X6_25 : FLk RX6 25 6 4 (.int) false := ⟨RX6, TX6, 8, tyX6, clX6, by decide, rfl, rfl, rfl, Or.inl wd103⟩
theorem fk_X7_84 : FLk RX7 84 6 2 (.int) false := ⟨RX6, TX6, 8, tyX6, clX6, by decide, rfl, rfl, rfl, Or.inr ⟨"ObligingPosts", List.mem_of_getElem? (i := 1) (by decide +kernel)⟩⟩
theorem fk_X7_73 : FLk RX7 73 6 1 (.int) false := ⟨RX6, TX6, 8, tyX6, clX6, by decide, rfl, rfl, rfl, Or.inr ⟨"ObligingPosts", List.mem_of_getElem? (i := 0) (by decide +kernel)⟩⟩
theorem wd104 : Cond.methodLink RX7 87 yX2_copyFrom ∈ tblG := gw2 231 (by decide +kernel) (by decide +kernel)
theorem wd105 : Cond.instanceMethod yX2_copyFrom ∈ tblG := gw2 232 (by decide +kernel) (by decide +kernel)
theorem wd106 : Cond.selects RX2 yX2_copyFrom yX2_copyFrom ∈ tblG := gw2 233 (by decide +kernel) (by decide +kernel)
theorem wd107 : Cond.code yX2_copyFrom cX2_copyFrom 2 none ∈ tblG := gw2 234 (by decide +kernel) (by decide +kernel)
theorem pl_X2_copyFrom : Plain yX2_copyFrom 1 := ⟨by decide, by decide, by decide +kernel⟩
theorem lk_X7_87 : LkV RX7 87 2 yX2_copyFrom cX2_copyFrom 2 none 1 := ⟨⟨TX2, 16, rfl⟩, wd104, wd105, wd106, wd6, wd107, pl_X2_copyFrom⟩
theorem wd108 : Cond.fieldLink RX2 39 RX2 "rooms" "[I" ∈ tblG := gw1 121 (by decide +kernel) (by decide +kernel)
theorem fk_X2_39 : FLk RX2 39 2 9 (.array .int) true := ⟨RX2, TX2, 16, tyX2, clX2, by decide, rfl, rfl, rfl, Or.inl wd108⟩
theorem wd109 : Cond.methodLink RX2 74 arraycopyName ∈ tblG := gw2 235 (by decide +kernel) (by decide +kernel)
theorem wd110 : Cond.native arraycopyName ∈ tblG := gw2 237 (by decide +kernel) (by decide +kernel)
theorem wd111 : Cond.static arraycopyName ∈ tblG := gw2 236 (by decide +kernel) (by decide +kernel)
theorem wd112 : Cond.initialized RJ10 ∈ tblG := gw1 15 (by decide +kernel) (by decide +kernel)
theorem wd113 : Cond.fieldLink RX2 46 RX2 "goals" "[I" ∈ tblG := gw1 130 (by decide +kernel) (by decide +kernel)
theorem fk_X2_46 : FLk RX2 46 2 11 (.array .int) true := ⟨RX2, TX2, 16, tyX2, clX2, by decide, rfl, rfl, rfl, Or.inl wd113⟩
theorem wd114 : Cond.fieldLink RX2 52 RX2 "starts" "[I" ∈ tblG := gw1 136 (by decide +kernel) (by decide +kernel)
theorem fk_X2_52 : FLk RX2 52 2 13 (.array .int) true := ⟨RX2, TX2, 16, tyX2, clX2, by decide, rfl, rfl, rfl, Or.inl wd114⟩
theorem wd115 : Cond.fieldLink RX2 55 RX2 "comings" "[I" ∈ tblG := gw1 140 (by decide +kernel) (by decide +kernel)
theorem fk_X2_55 : FLk RX2 55 2 14 (.array .int) true := ⟨RX2, TX2, 16, tyX2, clX2, by decide, rfl, rfl, rfl, Or.inl wd115⟩
theorem wd116 : Cond.methodLink RX2 80 yX0_copyFrom ∈ tblG := gw2 238 (by decide +kernel) (by decide +kernel)
theorem wd117 : Cond.instanceMethod yX0_copyFrom ∈ tblG := gw2 239 (by decide +kernel) (by decide +kernel)
theorem wd118 : Cond.selects RX0 yX0_copyFrom yX0_copyFrom ∈ tblG := gw3 0 (by decide +kernel) (by decide +kernel)
theorem wd119 : Cond.code yX0_copyFrom cX0_copyFrom 2 none ∈ tblG := gw3 1 (by decide +kernel) (by decide +kernel)
theorem pl_X0_copyFrom : Plain yX0_copyFrom 1 := ⟨by decide, by decide, by decide +kernel⟩
theorem lk_X2_80 : LkV RX2 80 0 yX0_copyFrom cX0_copyFrom 2 none 1 := ⟨⟨TX0, 3, rfl⟩, wd116, wd117, wd118, wd88, wd119, pl_X0_copyFrom⟩
theorem wd120 : Cond.fieldLink RX0 15 RX0 "codes" "[I" ∈ tblG := gw1 75 (by decide +kernel) (by decide +kernel)
theorem fk_X0_15 : FLk RX0 15 0 1 (.array .int) true := ⟨RX0, TX0, 3, tyX0, clX0, by decide, rfl, rfl, rfl, Or.inl wd120⟩
theorem wd121 : Cond.methodLink RX0 28 arraycopyName ∈ tblG := gw3 2 (by decide +kernel) (by decide +kernel)
theorem wd122 : Cond.methodLink RX7 90 yX7_changed ∈ tblG := gw3 3 (by decide +kernel) (by decide +kernel)
theorem wd123 : Cond.instanceMethod yX7_changed ∈ tblG := gw3 5 (by decide +kernel) (by decide +kernel)
theorem wd124 : Cond.selects RX7 yX7_changed yX7_changed ∈ tblG := gw0 15 (by decide +kernel) (by decide +kernel)
theorem wd125 : Cond.code yX7_changed cX7_changed 1 none ∈ tblG := gw3 6 (by decide +kernel) (by decide +kernel)
theorem pl_X7_changed : Plain yX7_changed 0 := ⟨by decide, by decide, by decide +kernel⟩
theorem lk_X7_90 : LkV RX7 90 7 yX7_changed cX7_changed 1 none 0 := ⟨⟨TX7, 12, rfl⟩, wd122, wd123, wd124, wd33, wd125, pl_X7_changed⟩
theorem wd126 : Cond.fieldLink RX7 66 RX7 "worthsKnown" "Z" ∈ tblG := gw2 34 (by decide +kernel) (by decide +kernel)
theorem fk_X7_66 : FLk RX7 66 7 10 (.boolean) false := ⟨RX7, TX7, 12, tyX7, clX7, by decide, rfl, rfl, rfl, Or.inl wd126⟩
theorem wd127 : Cond.fieldLink RX7 58 RX7 "fog" "LObligingPosts$Fog;" ∈ tblG := gw2 32 (by decide +kernel) (by decide +kernel)
theorem fk_X7_58 : FLk RX7 58 7 8 (.object "ObligingPosts$Fog") true := ⟨RX7, TX7, 12, tyX7, clX7, by decide, rfl, rfl, rfl, Or.inl wd127⟩
theorem wd128 : Cond.methodLink RX7 415 yX1_forget ∈ tblG := gw3 7 (by decide +kernel) (by decide +kernel)
theorem wd129 : Cond.instanceMethod yX1_forget ∈ tblG := gw3 8 (by decide +kernel) (by decide +kernel)
theorem wd130 : Cond.selects RX1 yX1_forget yX1_forget ∈ tblG := gw3 9 (by decide +kernel) (by decide +kernel)
theorem wd131 : Cond.initialized RX1 ∈ tblG := gw1 7 (by decide +kernel) (by decide +kernel)
theorem wd132 : Cond.code yX1_forget cX1_forget 1 none ∈ tblG := gw3 10 (by decide +kernel) (by decide +kernel)
theorem pl_X1_forget : Plain yX1_forget 0 := ⟨by decide, by decide, by decide +kernel⟩
theorem lk_X7_415 : LkV RX7 415 1 yX1_forget cX1_forget 1 none 0 := ⟨⟨TX1, 4, rfl⟩, wd128, wd129, wd130, wd131, wd132, pl_X1_forget⟩
theorem layX1 : ∀ k, k < 4 → u_lay RX1 TX1 k ∈ tblG := fun k hk => match k, hk with
  | 0, _ => gw2 14 (by decide +kernel) (by decide +kernel)
  | 1, _ => gw2 16 (by decide +kernel) (by decide +kernel)
  | 2, _ => gw2 18 (by decide +kernel) (by decide +kernel)
  | 3, _ => gw2 20 (by decide +kernel) (by decide +kernel)
  | k + 4, hk => absurd hk (by omega)
theorem clX1 : CLk 1 RX1 TX1 4 tyX1 := ⟨rfl, fun w hw => by
  obtain ⟨k, hk, rfl⟩ := List.mem_map.mp hw
  exact layX1 k (List.mem_range.mp hk), tyX1_ok, nmX1⟩
theorem wd133 : Cond.fieldLink RX1 9 RX1 "learned" "I" ∈ tblG := gw2 9 (by decide +kernel) (by decide +kernel)
theorem fk_X1_9 : FLk RX1 9 1 1 (.int) false := ⟨RX1, TX1, 4, tyX1, clX1, by decide, rfl, rfl, rfl, Or.inl wd133⟩
theorem wd134 : Cond.fieldLink RX7 41 RX7 "now" "LObligingPosts$Night;" ∈ tblG := gw2 29 (by decide +kernel) (by decide +kernel)
theorem fk_X7_41 : FLk RX7 41 7 5 (.object "ObligingPosts$Night") true := ⟨RX7, TX7, 12, tyX7, clX7, by decide, rfl, rfl, rfl, Or.inl wd134⟩
theorem wd135 : Cond.methodLink RX7 279 yX4_prepare ∈ tblG := gw3 11 (by decide +kernel) (by decide +kernel)
theorem wd136 : Cond.instanceMethod yX4_prepare ∈ tblG := gw3 12 (by decide +kernel) (by decide +kernel)
theorem wd137 : Cond.selects RX4 yX4_prepare yX4_prepare ∈ tblG := gw3 13 (by decide +kernel) (by decide +kernel)
theorem wd138 : Cond.initialized RX4 ∈ tblG := gw1 5 (by decide +kernel) (by decide +kernel)
theorem wd139 : Cond.code yX4_prepare cX4_prepare 1 none ∈ tblG := gw3 14 (by decide +kernel) (by decide +kernel)
theorem pl_X4_prepare : Plain yX4_prepare 0 := ⟨by decide, by decide, by decide +kernel⟩
theorem lk_X7_279 : LkV RX7 279 4 yX4_prepare cX4_prepare 1 none 0 := ⟨⟨TX4, 9, rfl⟩, wd135, wd136, wd137, wd138, wd139, pl_X4_prepare⟩
theorem layX4 : ∀ k, k < 9 → u_lay RX4 TX4 k ∈ tblG := fun k hk => match k, hk with
  | 0, _ => gw1 205 (by decide +kernel) (by decide +kernel)
  | 1, _ => gw1 207 (by decide +kernel) (by decide +kernel)
  | 2, _ => gw1 209 (by decide +kernel) (by decide +kernel)
  | 3, _ => gw1 211 (by decide +kernel) (by decide +kernel)
  | 4, _ => gw1 213 (by decide +kernel) (by decide +kernel)
  | 5, _ => gw1 215 (by decide +kernel) (by decide +kernel)
  | 6, _ => gw1 217 (by decide +kernel) (by decide +kernel)
  | 7, _ => gw1 219 (by decide +kernel) (by decide +kernel)
  | 8, _ => gw1 221 (by decide +kernel) (by decide +kernel)
  | k + 9, hk => absurd hk (by omega)
theorem clX4 : CLk 4 RX4 TX4 9 tyX4 := ⟨rfl, fun w hw => by
  obtain ⟨k, hk, rfl⟩ := List.mem_map.mp hw
  exact layX4 k (List.mem_range.mp hk), tyX4_ok, nmX4⟩
theorem wd140 : Cond.fieldLink RX4 37 RX4 "heath" "LObligingPosts$Heath;" ∈ tblG := gw1 189 (by decide +kernel) (by decide +kernel)
theorem fk_X4_37 : FLk RX4 37 4 0 (.object "ObligingPosts$Heath") true := ⟨RX4, TX4, 9, tyX4, clX4, by decide, rfl, rfl, rfl, Or.inl wd140⟩
theorem fk_X4_41 : FLk RX4 41 2 2 (.int) false := ⟨RX2, TX2, 16, tyX2, clX2, by decide, rfl, rfl, rfl, Or.inr ⟨"ObligingPosts", List.mem_of_getElem? (i := 40) (by decide +kernel)⟩⟩
theorem wd141 : Cond.fieldLink RX4 9 RX4 "law" "I" ∈ tblG := gw1 190 (by decide +kernel) (by decide +kernel)
theorem fk_X4_9 : FLk RX4 9 4 1 (.int) false := ⟨RX4, TX4, 9, tyX4, clX4, by decide, rfl, rfl, rfl, Or.inl wd141⟩
theorem wd142 : Cond.fieldLink RX4 15 RX4 "turning" "I" ∈ tblG := gw1 192 (by decide +kernel) (by decide +kernel)
theorem fk_X4_15 : FLk RX4 15 4 2 (.int) false := ⟨RX4, TX4, 9, tyX4, clX4, by decide, rfl, rfl, rfl, Or.inl wd142⟩
theorem wd143 : Cond.fieldLink RX4 18 RX4 "foggy" "I" ∈ tblG := gw1 194 (by decide +kernel) (by decide +kernel)
theorem fk_X4_18 : FLk RX4 18 4 3 (.int) false := ⟨RX4, TX4, 9, tyX4, clX4, by decide, rfl, rfl, rfl, Or.inl wd143⟩
theorem fk_X4_44 : FLk RX4 44 2 14 (.array .int) true := ⟨RX2, TX2, 16, tyX2, clX2, by decide, rfl, rfl, rfl, Or.inr ⟨"ObligingPosts", List.mem_of_getElem? (i := 41) (by decide +kernel)⟩⟩
theorem wd144 : Cond.fieldLink RX4 21 RX4 "comings" "[I" ∈ tblG := gw1 197 (by decide +kernel) (by decide +kernel)
theorem fk_X4_21 : FLk RX4 21 4 4 (.array .int) true := ⟨RX4, TX4, 9, tyX4, clX4, by decide, rfl, rfl, rfl, Or.inl wd144⟩
theorem wd145 : Cond.methodLink RX4 45 arraycopyName ∈ tblG := gw3 15 (by decide +kernel) (by decide +kernel)
theorem fk_X4_51 : FLk RX4 51 2 12 (.array .int) true := ⟨RX2, TX2, 16, tyX2, clX2, by decide, rfl, rfl, rfl, Or.inr ⟨"ObligingPosts", List.mem_of_getElem? (i := 42) (by decide +kernel)⟩⟩
theorem wd146 : Cond.fieldLink RX4 28 RX4 "arms" "[I" ∈ tblG := gw1 201 (by decide +kernel) (by decide +kernel)
theorem fk_X4_28 : FLk RX4 28 4 6 (.array .int) true := ⟨RX4, TX4, 9, tyX4, clX4, by decide, rfl, rfl, rfl, Or.inl wd146⟩
theorem wd147 : Cond.methodLink RX7 285 yX4_run ∈ tblG := gw3 16 (by decide +kernel) (by decide +kernel)
theorem wd148 : Cond.instanceMethod yX4_run ∈ tblG := gw3 17 (by decide +kernel) (by decide +kernel)
theorem wd149 : Cond.selects RX4 yX4_run yX4_run ∈ tblG := gw3 18 (by decide +kernel) (by decide +kernel)
theorem wd150 : Cond.code yX4_run cX4_run 2 none ∈ tblG := gw3 19 (by decide +kernel) (by decide +kernel)
theorem pl_X4_run : Plain yX4_run 0 := ⟨by decide, by decide, by decide +kernel⟩
theorem lk_X7_285 : LkV RX7 285 4 yX4_run cX4_run 2 none 0 := ⟨⟨TX4, 9, rfl⟩, wd147, wd148, wd149, wd138, wd150, pl_X4_run⟩
theorem wd151 : Cond.methodLink RX4 54 yX4_begin ∈ tblG := gw3 20 (by decide +kernel) (by decide +kernel)
theorem wd152 : Cond.instanceMethod yX4_begin ∈ tblG := gw3 21 (by decide +kernel) (by decide +kernel)
theorem wd153 : Cond.selects RX4 yX4_begin yX4_begin ∈ tblG := gw3 22 (by decide +kernel) (by decide +kernel)
theorem wd154 : Cond.code yX4_begin cX4_begin 2 none ∈ tblG := gw3 23 (by decide +kernel) (by decide +kernel)
theorem pl_X4_begin : Plain yX4_begin 0 := ⟨by decide, by decide, by decide +kernel⟩
theorem lk_X4_54 : LkV RX4 54 4 yX4_begin cX4_begin 2 none 0 := ⟨⟨TX4, 9, rfl⟩, wd151, wd152, wd153, wd138, wd154, pl_X4_begin⟩
theorem fk_X4_64 : FLk RX4 64 2 8 (.int) false := ⟨RX2, TX2, 16, tyX2, clX2, by decide, rfl, rfl, rfl, Or.inr ⟨"ObligingPosts", List.mem_of_getElem? (i := 44) (by decide +kernel)⟩⟩
theorem fk_X4_57 : FLk RX4 57 2 1 (.int) false := ⟨RX2, TX2, 16, tyX2, clX2, by decide, rfl, rfl, rfl, Or.inr ⟨"ObligingPosts", List.mem_of_getElem? (i := 43) (by decide +kernel)⟩⟩
theorem fk_X7_93 : FLk RX7 93 2 0 (.int) false := ⟨RX2, TX2, 16, tyX2, clX2, by decide, rfl, rfl, rfl, Or.inr ⟨"ObligingPosts", List.mem_of_getElem? (i := 2) (by decide +kernel)⟩⟩
theorem wd155 : Cond.methodLink RX7 3 objectInit ∈ tblG := gw1 23 (by decide +kernel) (by decide +kernel)
theorem wd156 : Cond.instanceMethod objectInit ∈ tblG := gw1 24 (by decide +kernel) (by decide +kernel)
theorem wd157 : Cond.code objectInit ⟨#[0xb1]⟩ 1 none ∈ tblG := gw1 25 (by decide +kernel) (by decide +kernel)
theorem wd158 : Cond.classLink RX7 9 RX6 ∈ tblG := gw1 26 (by decide +kernel) (by decide +kernel)
theorem wd159 : Cond.instantiable RX6 8 ∈ tblG := gw1 27 (by decide +kernel) (by decide +kernel)
theorem wd160 : Cond.instanceMethod yX6_init ∈ tblG := gw1 29 (by decide +kernel) (by decide +kernel)
theorem wd161 : Cond.code yX6_init cX6_init 1 none ∈ tblG := gw1 30 (by decide +kernel) (by decide +kernel)
theorem pl_X6_init : Plain yX6_init 0 := ⟨by decide, by decide, by decide +kernel⟩
theorem lk_X7_11 : LkI RX7 11 yX6_init cX6_init 1 0 := ⟨Or.inr ⟨"ObligingPosts", List.mem_of_getElem? (i := 64) (by decide +kernel)⟩, rfl, wd160, wd67, wd161, pl_X6_init⟩
theorem wd162 : Cond.methodLink RX6 3 objectInit ∈ tblG := gw1 31 (by decide +kernel) (by decide +kernel)
theorem wd163 : Cond.arrayClass .byte ∈ tblG := gw1 60 (by decide +kernel) (by decide +kernel)
theorem wd164 : Cond.fieldLink RX6 9 RX6 "bytes" "[B" ∈ tblG := gw1 32 (by decide +kernel) (by decide +kernel)
theorem fk_X6_9 : FLk RX6 9 6 0 (.array .byte) true := ⟨RX6, TX6, 8, tyX6, clX6, by decide, rfl, rfl, rfl, Or.inl wd164⟩
theorem wd165 : Cond.classLink RX7 16 RX2 ∈ tblG := gw1 61 (by decide +kernel) (by decide +kernel)
theorem wd166 : Cond.instantiable RX2 16 ∈ tblG := gw1 62 (by decide +kernel) (by decide +kernel)
theorem wd167 : Cond.instanceMethod yX2_init ∈ tblG := gw1 64 (by decide +kernel) (by decide +kernel)
theorem wd168 : Cond.code yX2_init cX2_init 1 none ∈ tblG := gw1 65 (by decide +kernel) (by decide +kernel)
theorem pl_X2_init : Plain yX2_init 0 := ⟨by decide, by decide, by decide +kernel⟩
theorem lk_X7_18 : LkI RX7 18 yX2_init cX2_init 1 0 := ⟨Or.inr ⟨"ObligingPosts", List.mem_of_getElem? (i := 65) (by decide +kernel)⟩, rfl, wd167, wd6, wd168, pl_X2_init⟩
theorem wd169 : Cond.methodLink RX2 3 objectInit ∈ tblG := gw1 66 (by decide +kernel) (by decide +kernel)
theorem wd170 : Cond.arrayClass .int ∈ tblG := gw1 84 (by decide +kernel) (by decide +kernel)
theorem wd171 : Cond.classLink RX2 58 RX0 ∈ tblG := gw1 67 (by decide +kernel) (by decide +kernel)
theorem wd172 : Cond.instantiable RX0 3 ∈ tblG := gw1 68 (by decide +kernel) (by decide +kernel)
theorem wd173 : Cond.instanceMethod yX0_init ∈ tblG := gw1 70 (by decide +kernel) (by decide +kernel)
theorem wd174 : Cond.code yX0_init cX0_init 1 none ∈ tblG := gw1 71 (by decide +kernel) (by decide +kernel)
theorem pl_X0_init : Plain yX0_init 0 := ⟨by decide, by decide, by decide +kernel⟩
theorem lk_X2_60 : LkI RX2 60 yX0_init cX0_init 1 0 := ⟨Or.inr ⟨"ObligingPosts", List.mem_of_getElem? (i := 67) (by decide +kernel)⟩, rfl, wd173, wd88, wd174, pl_X0_init⟩
theorem wd175 : Cond.methodLink RX0 3 objectInit ∈ tblG := gw1 72 (by decide +kernel) (by decide +kernel)
theorem wd176 : Cond.fieldLink RX7 26 RX7 "images" "[LObligingPosts$Heath;" ∈ tblG := gw2 27 (by decide +kernel) (by decide +kernel)
theorem fk_X7_26 : FLk RX7 26 7 3 (.array (.object "ObligingPosts$Heath")) true := ⟨RX7, TX7, 12, tyX7, clX7, by decide, rfl, rfl, rfl, Or.inl wd176⟩
theorem wd177 : Cond.classLink RX7 30 RX5 ∈ tblG := gw1 181 (by decide +kernel) (by decide +kernel)
theorem wd178 : Cond.fieldLink RX7 32 RX7 "slots" "[LObligingPosts$Slot;" ∈ tblG := gw2 28 (by decide +kernel) (by decide +kernel)
theorem fk_X7_32 : FLk RX7 32 7 4 (.array (.object "ObligingPosts$Slot")) true := ⟨RX7, TX7, 12, tyX7, clX7, by decide, rfl, rfl, rfl, Or.inl wd178⟩
theorem wd179 : Cond.classLink RX7 36 RX4 ∈ tblG := gw1 183 (by decide +kernel) (by decide +kernel)
theorem wd180 : Cond.instantiable RX4 9 ∈ tblG := gw1 184 (by decide +kernel) (by decide +kernel)
theorem wd181 : Cond.methodLink RX7 38 yX4_init ∈ tblG := gw1 185 (by decide +kernel) (by decide +kernel)
theorem wd182 : Cond.instanceMethod yX4_init ∈ tblG := gw1 186 (by decide +kernel) (by decide +kernel)
theorem wd183 : Cond.code yX4_init cX4_init 2 none ∈ tblG := gw1 187 (by decide +kernel) (by decide +kernel)
theorem pl_X4_init : Plain yX4_init 1 := ⟨by decide, by decide, by decide +kernel⟩
theorem lk_X7_38 : LkI RX7 38 yX4_init cX4_init 2 1 := ⟨Or.inl wd181, rfl, wd182, wd138, wd183, pl_X4_init⟩
theorem wd184 : Cond.methodLink RX4 3 objectInit ∈ tblG := gw1 188 (by decide +kernel) (by decide +kernel)
theorem wd185 : Cond.fieldLink RX4 25 RX4 "places" "[I" ∈ tblG := gw1 199 (by decide +kernel) (by decide +kernel)
theorem fk_X4_25 : FLk RX4 25 4 5 (.array .int) true := ⟨RX4, TX4, 9, tyX4, clX4, by decide, rfl, rfl, rfl, Or.inl wd185⟩
theorem wd186 : Cond.fieldLink RX4 31 RX4 "roadsTaken" "[I" ∈ tblG := gw1 203 (by decide +kernel) (by decide +kernel)
theorem fk_X4_31 : FLk RX4 31 4 7 (.array .int) true := ⟨RX4, TX4, 9, tyX4, clX4, by decide, rfl, rfl, rfl, Or.inl wd186⟩
theorem wd187 : Cond.fieldLink RX4 34 RX4 "guests" "[I" ∈ tblG := gw1 204 (by decide +kernel) (by decide +kernel)
theorem fk_X4_34 : FLk RX4 34 4 8 (.array .int) true := ⟨RX4, TX4, 9, tyX4, clX4, by decide, rfl, rfl, rfl, Or.inl wd187⟩
theorem wd188 : Cond.fieldLink RX7 45 RX7 "other" "LObligingPosts$Night;" ∈ tblG := gw2 30 (by decide +kernel) (by decide +kernel)
theorem fk_X7_45 : FLk RX7 45 7 6 (.object "ObligingPosts$Night") true := ⟨RX7, TX7, 12, tyX7, clX7, by decide, rfl, rfl, rfl, Or.inl wd188⟩
theorem layX3 : ∀ k, k < 3 → u_lay RX3 TX3 k ∈ tblG := fun k hk => match k, hk with
  | 0, _ => gw1 235 (by decide +kernel) (by decide +kernel)
  | 1, _ => gw1 237 (by decide +kernel) (by decide +kernel)
  | 2, _ => gw1 239 (by decide +kernel) (by decide +kernel)
  | k + 3, hk => absurd hk (by omega)
theorem clX3 : CLk 3 RX3 TX3 3 tyX3 := ⟨rfl, fun w hw => by
  obtain ⟨k, hk, rfl⟩ := List.mem_map.mp hw
  exact layX3 k (List.mem_range.mp hk), tyX3_ok, nmX3⟩
theorem wd189 : Cond.classLink RX7 48 RX3 ∈ tblG := gw1 224 (by decide +kernel) (by decide +kernel)
theorem wd190 : Cond.instantiable RX3 3 ∈ tblG := gw1 225 (by decide +kernel) (by decide +kernel)
theorem wd191 : Cond.initialized RX3 ∈ tblG := gw1 6 (by decide +kernel) (by decide +kernel)
theorem wd192 : Cond.methodLink RX7 50 yX3_init ∈ tblG := gw1 226 (by decide +kernel) (by decide +kernel)
theorem wd193 : Cond.instanceMethod yX3_init ∈ tblG := gw1 227 (by decide +kernel) (by decide +kernel)
theorem wd194 : Cond.code yX3_init cX3_init 2 none ∈ tblG := gw1 228 (by decide +kernel) (by decide +kernel)
theorem pl_X3_init : Plain yX3_init 1 := ⟨by decide, by decide, by decide +kernel⟩
theorem lk_X7_50 : LkI RX7 50 yX3_init cX3_init 2 1 := ⟨Or.inl wd192, rfl, wd193, wd191, wd194, pl_X3_init⟩
theorem wd195 : Cond.methodLink RX3 3 objectInit ∈ tblG := gw1 229 (by decide +kernel) (by decide +kernel)
theorem wd196 : Cond.fieldLink RX3 9 RX3 "arms" "[I" ∈ tblG := gw1 231 (by decide +kernel) (by decide +kernel)
theorem fk_X3_9 : FLk RX3 9 3 1 (.array .int) true := ⟨RX3, TX3, 3, tyX3, clX3, by decide, rfl, rfl, rfl, Or.inl wd196⟩
theorem wd197 : Cond.fieldLink RX3 15 RX3 "timesSent" "I" ∈ tblG := gw1 233 (by decide +kernel) (by decide +kernel)
theorem fk_X3_15 : FLk RX3 15 3 2 (.int) false := ⟨RX3, TX3, 3, tyX3, clX3, by decide, rfl, rfl, rfl, Or.inl wd197⟩
theorem wd198 : Cond.fieldLink RX3 19 RX3 "heath" "LObligingPosts$Heath;" ∈ tblG := gw1 230 (by decide +kernel) (by decide +kernel)
theorem fk_X3_19 : FLk RX3 19 3 0 (.object "ObligingPosts$Heath") true := ⟨RX3, TX3, 3, tyX3, clX3, by decide, rfl, rfl, rfl, Or.inl wd198⟩
theorem wd199 : Cond.fieldLink RX7 51 RX7 "lone" "LObligingPosts$Lone;" ∈ tblG := gw2 31 (by decide +kernel) (by decide +kernel)
theorem fk_X7_51 : FLk RX7 51 7 7 (.object "ObligingPosts$Lone") true := ⟨RX7, TX7, 12, tyX7, clX7, by decide, rfl, rfl, rfl, Or.inl wd199⟩
theorem wd200 : Cond.classLink RX7 55 RX1 ∈ tblG := gw2 2 (by decide +kernel) (by decide +kernel)
theorem wd201 : Cond.instantiable RX1 4 ∈ tblG := gw2 3 (by decide +kernel) (by decide +kernel)
theorem wd202 : Cond.methodLink RX7 57 yX1_init ∈ tblG := gw2 4 (by decide +kernel) (by decide +kernel)
theorem wd203 : Cond.instanceMethod yX1_init ∈ tblG := gw2 5 (by decide +kernel) (by decide +kernel)
theorem wd204 : Cond.code yX1_init cX1_init 2 none ∈ tblG := gw2 6 (by decide +kernel) (by decide +kernel)
theorem pl_X1_init : Plain yX1_init 1 := ⟨by decide, by decide, by decide +kernel⟩
theorem lk_X7_57 : LkI RX7 57 yX1_init cX1_init 2 1 := ⟨Or.inl wd202, rfl, wd203, wd131, wd204, pl_X1_init⟩
theorem wd205 : Cond.methodLink RX1 3 objectInit ∈ tblG := gw2 7 (by decide +kernel) (by decide +kernel)
theorem wd206 : Cond.arrayClass .long ∈ tblG := gw2 23 (by decide +kernel) (by decide +kernel)
theorem wd207 : Cond.fieldLink RX1 15 RX1 "weights" "[J" ∈ tblG := gw2 10 (by decide +kernel) (by decide +kernel)
theorem fk_X1_15 : FLk RX1 15 1 2 (.array .long) true := ⟨RX1, TX1, 4, tyX1, clX1, by decide, rfl, rfl, rfl, Or.inl wd207⟩
theorem wd208 : Cond.fieldLink RX1 19 RX1 "whole" "J" ∈ tblG := gw2 12 (by decide +kernel) (by decide +kernel)
theorem fk_X1_19 : FLk RX1 19 1 3 (.long) false := ⟨RX1, TX1, 4, tyX1, clX1, by decide, rfl, rfl, rfl, Or.inl wd208⟩
theorem wd209 : Cond.fieldLink RX1 23 RX1 "heath" "LObligingPosts$Heath;" ∈ tblG := gw2 8 (by decide +kernel) (by decide +kernel)
theorem fk_X1_23 : FLk RX1 23 1 0 (.object "ObligingPosts$Heath") true := ⟨RX1, TX1, 4, tyX1, clX1, by decide, rfl, rfl, rfl, Or.inl wd209⟩
theorem wd210 : Cond.fieldLink RX7 62 RX7 "worths" "[I" ∈ tblG := gw2 33 (by decide +kernel) (by decide +kernel)
theorem fk_X7_62 : FLk RX7 62 7 9 (.array .int) true := ⟨RX7, TX7, 12, tyX7, clX7, by decide, rfl, rfl, rfl, Or.inl wd210⟩
theorem wd211 : Cond.fieldLink RX7 70 RX7 "supposed" "[I" ∈ tblG := gw2 35 (by decide +kernel) (by decide +kernel)
theorem fk_X7_70 : FLk RX7 70 7 11 (.array .int) true := ⟨RX7, TX7, 12, tyX7, clX7, by decide, rfl, rfl, rfl, Or.inl wd211⟩
theorem fk_X7_96 : FLk RX7 96 6 3 (.int) false := ⟨RX6, TX6, 8, tyX6, clX6, by decide, rfl, rfl, rfl, Or.inr ⟨"ObligingPosts", List.mem_of_getElem? (i := 3) (by decide +kernel)⟩⟩
theorem fk_X7_168 : FLk RX7 168 2 1 (.int) false := ⟨RX2, TX2, 16, tyX2, clX2, by decide, rfl, rfl, rfl, Or.inr ⟨"ObligingPosts", List.mem_of_getElem? (i := 9) (by decide +kernel)⟩⟩
theorem fk_X7_371 : FLk RX7 371 2 2 (.int) false := ⟨RX2, TX2, 16, tyX2, clX2, by decide, rfl, rfl, rfl, Or.inr ⟨"ObligingPosts", List.mem_of_getElem? (i := 19) (by decide +kernel)⟩⟩
theorem fk_X7_374 : FLk RX7 374 2 3 (.int) false := ⟨RX2, TX2, 16, tyX2, clX2, by decide, rfl, rfl, rfl, Or.inr ⟨"ObligingPosts", List.mem_of_getElem? (i := 20) (by decide +kernel)⟩⟩
theorem fk_X7_377 : FLk RX7 377 2 4 (.int) false := ⟨RX2, TX2, 16, tyX2, clX2, by decide, rfl, rfl, rfl, Or.inr ⟨"ObligingPosts", List.mem_of_getElem? (i := 21) (by decide +kernel)⟩⟩
theorem fk_X7_219 : FLk RX7 219 2 5 (.int) false := ⟨RX2, TX2, 16, tyX2, clX2, by decide, rfl, rfl, rfl, Or.inr ⟨"ObligingPosts", List.mem_of_getElem? (i := 10) (by decide +kernel)⟩⟩
theorem fk_X7_380 : FLk RX7 380 2 6 (.int) false := ⟨RX2, TX2, 16, tyX2, clX2, by decide, rfl, rfl, rfl, Or.inr ⟨"ObligingPosts", List.mem_of_getElem? (i := 22) (by decide +kernel)⟩⟩
theorem fk_X7_383 : FLk RX7 383 2 7 (.int) false := ⟨RX2, TX2, 16, tyX2, clX2, by decide, rfl, rfl, rfl, Or.inr ⟨"ObligingPosts", List.mem_of_getElem? (i := 23) (by decide +kernel)⟩⟩
theorem fk_X7_276 : FLk RX7 276 2 8 (.int) false := ⟨RX2, TX2, 16, tyX2, clX2, by decide, rfl, rfl, rfl, Or.inr ⟨"ObligingPosts", List.mem_of_getElem? (i := 14) (by decide +kernel)⟩⟩
theorem fk_X7_344 : FLk RX7 344 2 15 (.object "ObligingPosts$Acts") true := ⟨RX2, TX2, 16, tyX2, clX2, by decide, rfl, rfl, rfl, Or.inr ⟨"ObligingPosts", List.mem_of_getElem? (i := 17) (by decide +kernel)⟩⟩
theorem fk_X7_354 : FLk RX7 354 0 0 (.int) false := ⟨RX0, TX0, 3, tyX0, clX0, by decide, rfl, rfl, rfl, Or.inr ⟨"ObligingPosts", List.mem_of_getElem? (i := 18) (by decide +kernel)⟩⟩
theorem wd212 : Cond.methodLink RX7 386 yX7_slotsWithRow ∈ tblG := gw5 210 (by decide +kernel) (by decide +kernel)
theorem wd213 : Cond.instanceMethod yX7_slotsWithRow ∈ tblG := gw5 212 (by decide +kernel) (by decide +kernel)
theorem wd214 : Cond.selects RX7 yX7_slotsWithRow yX7_slotsWithRow ∈ tblG := gw0 45 (by decide +kernel) (by decide +kernel)
theorem wd215 : Cond.code yX7_slotsWithRow cX7_slotsWithRow 3 (some .int) ∈ tblG := gw5 213 (by decide +kernel) (by decide +kernel)
theorem pl_X7_slotsWithRow : Plain yX7_slotsWithRow 0 := ⟨by decide, by decide, by decide +kernel⟩
theorem lk_X7_386 : LkV RX7 386 7 yX7_slotsWithRow cX7_slotsWithRow 3 (some .int) 0 := ⟨⟨TX7, 12, rfl⟩, wd212, wd213, wd214, wd33, wd215, pl_X7_slotsWithRow⟩
theorem layX5 : ∀ k, k < 3 → u_lay RX5 TX5 k ∈ tblG := fun k hk => match k, hk with
  | 0, _ => gw5 237 (by decide +kernel) (by decide +kernel)
  | 1, _ => gw5 239 (by decide +kernel) (by decide +kernel)
  | 2, _ => gw6 1 (by decide +kernel) (by decide +kernel)
  | k + 3, hk => absurd hk (by omega)
theorem clX5 : CLk 5 RX5 TX5 3 tyX5 := ⟨rfl, fun w hw => by
  obtain ⟨k, hk, rfl⟩ := List.mem_map.mp hw
  exact layX5 k (List.mem_range.mp hk), tyX5_ok, nmX5⟩
theorem wd216 : Cond.instantiable RX5 3 ∈ tblG := gw5 226 (by decide +kernel) (by decide +kernel)
theorem wd217 : Cond.initialized RX5 ∈ tblG := gw1 17 (by decide +kernel) (by decide +kernel)
theorem wd218 : Cond.instanceMethod yX5_init ∈ tblG := gw5 228 (by decide +kernel) (by decide +kernel)
theorem wd219 : Cond.code yX5_init cX5_init 1 none ∈ tblG := gw5 229 (by decide +kernel) (by decide +kernel)
theorem pl_X5_init : Plain yX5_init 0 := ⟨by decide, by decide, by decide +kernel⟩
theorem lk_X7_392 : LkI RX7 392 yX5_init cX5_init 1 0 := ⟨Or.inr ⟨"ObligingPosts", List.mem_of_getElem? (i := 66) (by decide +kernel)⟩, rfl, wd218, wd217, wd219, pl_X5_init⟩
theorem wd220 : Cond.methodLink RX5 3 objectInit ∈ tblG := gw5 230 (by decide +kernel) (by decide +kernel)
theorem wd221 : Cond.fieldLink RX5 9 RX5 "numbers" "[J" ∈ tblG := gw5 231 (by decide +kernel) (by decide +kernel)
theorem fk_X5_9 : FLk RX5 9 5 0 (.array .long) true := ⟨RX5, TX5, 3, tyX5, clX5, by decide, rfl, rfl, rfl, Or.inl wd221⟩
theorem wd222 : Cond.fieldLink RX5 15 RX5 "width" "I" ∈ tblG := gw5 233 (by decide +kernel) (by decide +kernel)
theorem fk_X5_15 : FLk RX5 15 5 1 (.int) false := ⟨RX5, TX5, 3, tyX5, clX5, by decide, rfl, rfl, rfl, Or.inl wd222⟩
theorem wd223 : Cond.fieldLink RX5 19 RX5 "size" "I" ∈ tblG := gw5 235 (by decide +kernel) (by decide +kernel)
theorem fk_X5_19 : FLk RX5 19 5 2 (.int) false := ⟨RX5, TX5, 3, tyX5, clX5, by decide, rfl, rfl, rfl, Or.inl wd223⟩
theorem wd224 : Cond.methodLink RX7 393 yX5_begin ∈ tblG := gw6 4 (by decide +kernel) (by decide +kernel)
theorem wd225 : Cond.instanceMethod yX5_begin ∈ tblG := gw6 5 (by decide +kernel) (by decide +kernel)
theorem wd226 : Cond.selects RX5 yX5_begin yX5_begin ∈ tblG := gw6 6 (by decide +kernel) (by decide +kernel)
theorem wd227 : Cond.code yX5_begin cX5_begin 3 none ∈ tblG := gw6 7 (by decide +kernel) (by decide +kernel)
theorem pl_X5_begin : Plain yX5_begin 2 := ⟨by decide, by decide, by decide +kernel⟩
theorem lk_X7_393 : LkV RX7 393 5 yX5_begin cX5_begin 3 none 2 := ⟨⟨TX5, 3, rfl⟩, wd224, wd225, wd226, wd217, wd227, pl_X5_begin⟩
theorem wd228 : Cond.methodLink RX5 22 yJ7_fill_d0a16 ∈ tblG := gw6 8 (by decide +kernel) (by decide +kernel)
theorem wd229 : Cond.static yJ7_fill_d0a16 ∈ tblG := gw5 135 (by decide +kernel) (by decide +kernel)
theorem wd230 : Cond.code yJ7_fill_d0a16 cJ7_fill_d0a16 5 none ∈ tblG := gw5 136 (by decide +kernel) (by decide +kernel)
theorem pl_J7_fill_d0a16 : Plain yJ7_fill_d0a16 2 := ⟨by decide, by decide, by decide +kernel⟩
theorem lk_X5_22 : LkS RX5 22 yJ7_fill_d0a16 cJ7_fill_d0a16 5 none 2 := ⟨wd228, wd229, wd81, wd230, pl_J7_fill_d0a16⟩
theorem wd231 : Cond.methodLink RX7 77 yX6_append ∈ tblG := gw2 65 (by decide +kernel) (by decide +kernel)
theorem wd232 : Cond.instanceMethod yX6_append ∈ tblG := gw2 66 (by decide +kernel) (by decide +kernel)
theorem wd233 : Cond.selects RX6 yX6_append yX6_append ∈ tblG := gw2 67 (by decide +kernel) (by decide +kernel)
theorem wd234 : Cond.code yX6_append cX6_append 3 none ∈ tblG := gw2 68 (by decide +kernel) (by decide +kernel)
theorem pl_X6_append : Plain yX6_append 1 := ⟨by decide, by decide, by decide +kernel⟩
theorem lk_X7_77 : LkV RX7 77 6 yX6_append cX6_append 3 none 1 := ⟨⟨TX6, 8, rfl⟩, wd231, wd232, wd233, wd67, wd234, pl_X6_append⟩
