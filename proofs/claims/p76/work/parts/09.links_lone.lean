theorem dX0_clear_0 : decode cX0_clear 0 = .ok (.aload_n 0, 1) := by decide +kernel
theorem dX0_clear_1 : decode cX0_clear 1 = .ok (.iconst 0, 1) := by decide +kernel
theorem dX0_clear_2 : decode cX0_clear 2 = .ok (.putfield 9, 3) := by decide +kernel
theorem dX0_clear_5 : decode cX0_clear 5 = .ok (.aload_n 0, 1) := by decide +kernel
theorem dX0_clear_6 : decode cX0_clear 6 = .ok (.getfield 19, 3) := by decide +kernel
theorem dX0_clear_9 : decode cX0_clear 9 = .ok (.iconst 0, 1) := by decide +kernel
theorem dX0_clear_10 : decode cX0_clear 10 = .ok (.invokestatic 22, 3) := by decide +kernel
theorem dX0_clear_13 : decode cX0_clear 13 = .ok (.return_, 1) := by decide +kernel
theorem dX0_copyFrom_0 : decode cX0_copyFrom 0 = .ok (.aload_n 0, 1) := by decide +kernel
theorem dX0_copyFrom_1 : decode cX0_copyFrom 1 = .ok (.aload_n 1, 1) := by decide +kernel
theorem dX0_copyFrom_2 : decode cX0_copyFrom 2 = .ok (.getfield 9, 3) := by decide +kernel
theorem dX0_copyFrom_5 : decode cX0_copyFrom 5 = .ok (.putfield 9, 3) := by decide +kernel
theorem dX0_copyFrom_8 : decode cX0_copyFrom 8 = .ok (.aload_n 1, 1) := by decide +kernel
theorem dX0_copyFrom_9 : decode cX0_copyFrom 9 = .ok (.getfield 15, 3) := by decide +kernel
theorem dX0_copyFrom_12 : decode cX0_copyFrom 12 = .ok (.iconst 0, 1) := by decide +kernel
theorem dX0_copyFrom_13 : decode cX0_copyFrom 13 = .ok (.aload_n 0, 1) := by decide +kernel
theorem dX0_copyFrom_14 : decode cX0_copyFrom 14 = .ok (.getfield 15, 3) := by decide +kernel
theorem dX0_copyFrom_17 : decode cX0_copyFrom 17 = .ok (.iconst 0, 1) := by decide +kernel
theorem dX0_copyFrom_18 : decode cX0_copyFrom 18 = .ok (.bipush 30, 2) := by decide +kernel
theorem dX0_copyFrom_20 : decode cX0_copyFrom 20 = .ok (.invokestatic 28, 3) := by decide +kernel
theorem dX0_copyFrom_23 : decode cX0_copyFrom 23 = .ok (.aload_n 1, 1) := by decide +kernel
theorem dX0_copyFrom_24 : decode cX0_copyFrom 24 = .ok (.getfield 19, 3) := by decide +kernel
theorem dX0_copyFrom_27 : decode cX0_copyFrom 27 = .ok (.iconst 0, 1) := by decide +kernel
theorem dX0_copyFrom_28 : decode cX0_copyFrom 28 = .ok (.aload_n 0, 1) := by decide +kernel
theorem dX0_copyFrom_29 : decode cX0_copyFrom 29 = .ok (.getfield 19, 3) := by decide +kernel
theorem dX0_copyFrom_32 : decode cX0_copyFrom 32 = .ok (.iconst 0, 1) := by decide +kernel
theorem dX0_copyFrom_33 : decode cX0_copyFrom 33 = .ok (.aload_n 0, 1) := by decide +kernel
theorem dX0_copyFrom_34 : decode cX0_copyFrom 34 = .ok (.getfield 19, 3) := by decide +kernel
theorem dX0_copyFrom_37 : decode cX0_copyFrom 37 = .ok (.arraylength, 1) := by decide +kernel
theorem dX0_copyFrom_38 : decode cX0_copyFrom 38 = .ok (.invokestatic 28, 3) := by decide +kernel
theorem dX0_copyFrom_41 : decode cX0_copyFrom 41 = .ok (.return_, 1) := by decide +kernel
theorem dX0_add_0 : decode cX0_add 0 = .ok (.aload_n 0, 1) := by decide +kernel
theorem dX0_add_1 : decode cX0_add 1 = .ok (.getfield 9, 3) := by decide +kernel
theorem dX0_add_4 : decode cX0_add 4 = .ok (.bipush 30, 2) := by decide +kernel
theorem dX0_add_6 : decode cX0_add 6 = .ok (.if_icmp .lt 5, 3) := by decide +kernel
theorem dX0_add_9 : decode cX0_add 9 = .ok (.iconst 0, 1) := by decide +kernel
theorem dX0_add_10 : decode cX0_add 10 = .ok (.ireturn, 1) := by decide +kernel
theorem dX0_add_11 : decode cX0_add 11 = .ok (.aload_n 0, 1) := by decide +kernel
theorem dX0_add_12 : decode cX0_add 12 = .ok (.getfield 15, 3) := by decide +kernel
theorem dX0_add_15 : decode cX0_add 15 = .ok (.aload_n 0, 1) := by decide +kernel
theorem dX0_add_16 : decode cX0_add 16 = .ok (.getfield 9, 3) := by decide +kernel
theorem dX0_add_19 : decode cX0_add 19 = .ok (.iload_n 1, 1) := by decide +kernel
theorem dX0_add_20 : decode cX0_add 20 = .ok (.iload_n 2, 1) := by decide +kernel
theorem dX0_add_21 : decode cX0_add 21 = .ok (.bipush 16, 2) := by decide +kernel
theorem dX0_add_23 : decode cX0_add 23 = .ok (.imul, 1) := by decide +kernel
theorem dX0_add_24 : decode cX0_add 24 = .ok (.iadd, 1) := by decide +kernel
theorem dX0_add_25 : decode cX0_add 25 = .ok (.iload_n 3, 1) := by decide +kernel
theorem dX0_add_26 : decode cX0_add 26 = .ok (.iadd, 1) := by decide +kernel
theorem dX0_add_27 : decode cX0_add 27 = .ok (.iastore, 1) := by decide +kernel
theorem dX0_add_28 : decode cX0_add 28 = .ok (.aload_n 0, 1) := by decide +kernel
theorem dX0_add_29 : decode cX0_add 29 = .ok (.getfield 19, 3) := by decide +kernel
theorem dX0_add_32 : decode cX0_add 32 = .ok (.aload_n 0, 1) := by decide +kernel
theorem dX0_add_33 : decode cX0_add 33 = .ok (.getfield 15, 3) := by decide +kernel
theorem dX0_add_36 : decode cX0_add 36 = .ok (.aload_n 0, 1) := by decide +kernel
theorem dX0_add_37 : decode cX0_add 37 = .ok (.getfield 9, 3) := by decide +kernel
theorem dX0_add_40 : decode cX0_add 40 = .ok (.iaload, 1) := by decide +kernel
theorem dX0_add_41 : decode cX0_add 41 = .ok (.dup2, 1) := by decide +kernel
theorem dX0_add_42 : decode cX0_add 42 = .ok (.iaload, 1) := by decide +kernel
theorem dX0_add_43 : decode cX0_add 43 = .ok (.iconst 1, 1) := by decide +kernel
theorem dX0_add_44 : decode cX0_add 44 = .ok (.iadd, 1) := by decide +kernel
theorem dX0_add_45 : decode cX0_add 45 = .ok (.iastore, 1) := by decide +kernel
theorem dX0_add_46 : decode cX0_add 46 = .ok (.aload_n 0, 1) := by decide +kernel
theorem dX0_add_47 : decode cX0_add 47 = .ok (.dup, 1) := by decide +kernel
theorem dX0_add_48 : decode cX0_add 48 = .ok (.getfield 9, 3) := by decide +kernel
theorem dX0_add_51 : decode cX0_add 51 = .ok (.iconst 1, 1) := by decide +kernel
theorem dX0_add_52 : decode cX0_add 52 = .ok (.iadd, 1) := by decide +kernel
theorem dX0_add_53 : decode cX0_add 53 = .ok (.putfield 9, 3) := by decide +kernel
theorem dX0_add_56 : decode cX0_add 56 = .ok (.iconst 1, 1) := by decide +kernel
theorem dX0_add_57 : decode cX0_add 57 = .ok (.ireturn, 1) := by decide +kernel
theorem dX0_takeBack_0 : decode cX0_takeBack 0 = .ok (.aload_n 0, 1) := by decide +kernel
theorem dX0_takeBack_1 : decode cX0_takeBack 1 = .ok (.getfield 9, 3) := by decide +kernel
theorem dX0_takeBack_4 : decode cX0_takeBack 4 = .ok (.ifCond .le 31, 3) := by decide +kernel
theorem dX0_takeBack_7 : decode cX0_takeBack 7 = .ok (.aload_n 0, 1) := by decide +kernel
theorem dX0_takeBack_8 : decode cX0_takeBack 8 = .ok (.dup, 1) := by decide +kernel
theorem dX0_takeBack_9 : decode cX0_takeBack 9 = .ok (.getfield 9, 3) := by decide +kernel
theorem dX0_takeBack_12 : decode cX0_takeBack 12 = .ok (.iconst 1, 1) := by decide +kernel
theorem dX0_takeBack_13 : decode cX0_takeBack 13 = .ok (.isub, 1) := by decide +kernel
theorem dX0_takeBack_14 : decode cX0_takeBack 14 = .ok (.putfield 9, 3) := by decide +kernel
theorem dX0_takeBack_17 : decode cX0_takeBack 17 = .ok (.aload_n 0, 1) := by decide +kernel
theorem dX0_takeBack_18 : decode cX0_takeBack 18 = .ok (.getfield 19, 3) := by decide +kernel
theorem dX0_takeBack_21 : decode cX0_takeBack 21 = .ok (.aload_n 0, 1) := by decide +kernel
theorem dX0_takeBack_22 : decode cX0_takeBack 22 = .ok (.getfield 15, 3) := by decide +kernel
theorem dX0_takeBack_25 : decode cX0_takeBack 25 = .ok (.aload_n 0, 1) := by decide +kernel
theorem dX0_takeBack_26 : decode cX0_takeBack 26 = .ok (.getfield 9, 3) := by decide +kernel
theorem dX0_takeBack_29 : decode cX0_takeBack 29 = .ok (.iaload, 1) := by decide +kernel
theorem dX0_takeBack_30 : decode cX0_takeBack 30 = .ok (.dup2, 1) := by decide +kernel
theorem dX0_takeBack_31 : decode cX0_takeBack 31 = .ok (.iaload, 1) := by decide +kernel
theorem dX0_takeBack_32 : decode cX0_takeBack 32 = .ok (.iconst 1, 1) := by decide +kernel
theorem dX0_takeBack_33 : decode cX0_takeBack 33 = .ok (.isub, 1) := by decide +kernel
theorem dX0_takeBack_34 : decode cX0_takeBack 34 = .ok (.iastore, 1) := by decide +kernel
theorem dX0_takeBack_35 : decode cX0_takeBack 35 = .ok (.return_, 1) := by decide +kernel
theorem dX2_clear_0 : decode cX2_clear 0 = .ok (.aload_n 0, 1) := by decide +kernel
theorem dX2_clear_1 : decode cX2_clear 1 = .ok (.iconst 0, 1) := by decide +kernel
theorem dX2_clear_2 : decode cX2_clear 2 = .ok (.putfield 9, 3) := by decide +kernel
theorem dX2_clear_5 : decode cX2_clear 5 = .ok (.aload_n 0, 1) := by decide +kernel
theorem dX2_clear_6 : decode cX2_clear 6 = .ok (.iconst 0, 1) := by decide +kernel
theorem dX2_clear_7 : decode cX2_clear 7 = .ok (.putfield 15, 3) := by decide +kernel
theorem dX2_clear_10 : decode cX2_clear 10 = .ok (.aload_n 0, 1) := by decide +kernel
theorem dX2_clear_11 : decode cX2_clear 11 = .ok (.iconst 0, 1) := by decide +kernel
theorem dX2_clear_12 : decode cX2_clear 12 = .ok (.putfield 18, 3) := by decide +kernel
theorem dX2_clear_15 : decode cX2_clear 15 = .ok (.aload_n 0, 1) := by decide +kernel
theorem dX2_clear_16 : decode cX2_clear 16 = .ok (.iconst 0, 1) := by decide +kernel
theorem dX2_clear_17 : decode cX2_clear 17 = .ok (.putfield 21, 3) := by decide +kernel
theorem dX2_clear_20 : decode cX2_clear 20 = .ok (.aload_n 0, 1) := by decide +kernel
theorem dX2_clear_21 : decode cX2_clear 21 = .ok (.iconst 0, 1) := by decide +kernel
theorem dX2_clear_22 : decode cX2_clear 22 = .ok (.putfield 24, 3) := by decide +kernel
theorem dX2_clear_25 : decode cX2_clear 25 = .ok (.aload_n 0, 1) := by decide +kernel
theorem dX2_clear_26 : decode cX2_clear 26 = .ok (.iconst 0, 1) := by decide +kernel
theorem dX2_clear_27 : decode cX2_clear 27 = .ok (.putfield 27, 3) := by decide +kernel
theorem dX2_clear_30 : decode cX2_clear 30 = .ok (.aload_n 0, 1) := by decide +kernel
theorem dX2_clear_31 : decode cX2_clear 31 = .ok (.iconst 0, 1) := by decide +kernel
theorem dX2_clear_32 : decode cX2_clear 32 = .ok (.putfield 30, 3) := by decide +kernel
theorem dX2_clear_35 : decode cX2_clear 35 = .ok (.aload_n 0, 1) := by decide +kernel
theorem dX2_clear_36 : decode cX2_clear 36 = .ok (.iconst 0, 1) := by decide +kernel
theorem dX2_clear_37 : decode cX2_clear 37 = .ok (.putfield 33, 3) := by decide +kernel
theorem dX2_clear_40 : decode cX2_clear 40 = .ok (.aload_n 0, 1) := by decide +kernel
theorem dX2_clear_41 : decode cX2_clear 41 = .ok (.iconst 0, 1) := by decide +kernel
theorem dX2_clear_42 : decode cX2_clear 42 = .ok (.putfield 36, 3) := by decide +kernel
theorem dX2_clear_45 : decode cX2_clear 45 = .ok (.aload_n 0, 1) := by decide +kernel
theorem dX2_clear_46 : decode cX2_clear 46 = .ok (.getfield 43, 3) := by decide +kernel
theorem dX2_clear_49 : decode cX2_clear 49 = .ok (.iconst 0, 1) := by decide +kernel
theorem dX2_clear_50 : decode cX2_clear 50 = .ok (.invokestatic 65, 3) := by decide +kernel
theorem dX2_clear_53 : decode cX2_clear 53 = .ok (.aload_n 0, 1) := by decide +kernel
theorem dX2_clear_54 : decode cX2_clear 54 = .ok (.getfield 49, 3) := by decide +kernel
theorem dX2_clear_57 : decode cX2_clear 57 = .ok (.iconst 0, 1) := by decide +kernel
theorem dX2_clear_58 : decode cX2_clear 58 = .ok (.invokestatic 65, 3) := by decide +kernel
theorem dX2_clear_61 : decode cX2_clear 61 = .ok (.aload_n 0, 1) := by decide +kernel
theorem dX2_clear_62 : decode cX2_clear 62 = .ok (.getfield 61, 3) := by decide +kernel
theorem dX2_clear_65 : decode cX2_clear 65 = .ok (.invokevirtual 71, 3) := by decide +kernel
theorem dX2_clear_68 : decode cX2_clear 68 = .ok (.return_, 1) := by decide +kernel
theorem dX2_copyFrom_0 : decode cX2_copyFrom 0 = .ok (.aload_n 0, 1) := by decide +kernel
theorem dX2_copyFrom_1 : decode cX2_copyFrom 1 = .ok (.aload_n 1, 1) := by decide +kernel
theorem dX2_copyFrom_2 : decode cX2_copyFrom 2 = .ok (.getfield 9, 3) := by decide +kernel
theorem dX2_copyFrom_5 : decode cX2_copyFrom 5 = .ok (.putfield 9, 3) := by decide +kernel
theorem dX2_copyFrom_8 : decode cX2_copyFrom 8 = .ok (.aload_n 0, 1) := by decide +kernel
theorem dX2_copyFrom_9 : decode cX2_copyFrom 9 = .ok (.aload_n 1, 1) := by decide +kernel
theorem dX2_copyFrom_10 : decode cX2_copyFrom 10 = .ok (.getfield 15, 3) := by decide +kernel
theorem dX2_copyFrom_13 : decode cX2_copyFrom 13 = .ok (.putfield 15, 3) := by decide +kernel
theorem dX2_copyFrom_16 : decode cX2_copyFrom 16 = .ok (.aload_n 0, 1) := by decide +kernel
theorem dX2_copyFrom_17 : decode cX2_copyFrom 17 = .ok (.aload_n 1, 1) := by decide +kernel
theorem dX2_copyFrom_18 : decode cX2_copyFrom 18 = .ok (.getfield 18, 3) := by decide +kernel
theorem dX2_copyFrom_21 : decode cX2_copyFrom 21 = .ok (.putfield 18, 3) := by decide +kernel
theorem dX2_copyFrom_24 : decode cX2_copyFrom 24 = .ok (.aload_n 0, 1) := by decide +kernel
theorem dX2_copyFrom_25 : decode cX2_copyFrom 25 = .ok (.aload_n 1, 1) := by decide +kernel
theorem dX2_copyFrom_26 : decode cX2_copyFrom 26 = .ok (.getfield 21, 3) := by decide +kernel
theorem dX2_copyFrom_29 : decode cX2_copyFrom 29 = .ok (.putfield 21, 3) := by decide +kernel
theorem dX2_copyFrom_32 : decode cX2_copyFrom 32 = .ok (.aload_n 0, 1) := by decide +kernel
theorem dX2_copyFrom_33 : decode cX2_copyFrom 33 = .ok (.aload_n 1, 1) := by decide +kernel
theorem dX2_copyFrom_34 : decode cX2_copyFrom 34 = .ok (.getfield 24, 3) := by decide +kernel
theorem dX2_copyFrom_37 : decode cX2_copyFrom 37 = .ok (.putfield 24, 3) := by decide +kernel
theorem dX2_copyFrom_40 : decode cX2_copyFrom 40 = .ok (.aload_n 0, 1) := by decide +kernel
theorem dX2_copyFrom_41 : decode cX2_copyFrom 41 = .ok (.aload_n 1, 1) := by decide +kernel
theorem dX2_copyFrom_42 : decode cX2_copyFrom 42 = .ok (.getfield 27, 3) := by decide +kernel
theorem dX2_copyFrom_45 : decode cX2_copyFrom 45 = .ok (.putfield 27, 3) := by decide +kernel
theorem dX2_copyFrom_48 : decode cX2_copyFrom 48 = .ok (.aload_n 0, 1) := by decide +kernel
theorem dX2_copyFrom_49 : decode cX2_copyFrom 49 = .ok (.aload_n 1, 1) := by decide +kernel
theorem dX2_copyFrom_50 : decode cX2_copyFrom 50 = .ok (.getfield 30, 3) := by decide +kernel
theorem dX2_copyFrom_53 : decode cX2_copyFrom 53 = .ok (.putfield 30, 3) := by decide +kernel
theorem dX2_copyFrom_56 : decode cX2_copyFrom 56 = .ok (.aload_n 0, 1) := by decide +kernel
theorem dX2_copyFrom_57 : decode cX2_copyFrom 57 = .ok (.aload_n 1, 1) := by decide +kernel
theorem dX2_copyFrom_58 : decode cX2_copyFrom 58 = .ok (.getfield 33, 3) := by decide +kernel
theorem dX2_copyFrom_61 : decode cX2_copyFrom 61 = .ok (.putfield 33, 3) := by decide +kernel
theorem dX2_copyFrom_64 : decode cX2_copyFrom 64 = .ok (.aload_n 0, 1) := by decide +kernel
theorem dX2_copyFrom_65 : decode cX2_copyFrom 65 = .ok (.aload_n 1, 1) := by decide +kernel
theorem dX2_copyFrom_66 : decode cX2_copyFrom 66 = .ok (.getfield 36, 3) := by decide +kernel
theorem dX2_copyFrom_69 : decode cX2_copyFrom 69 = .ok (.putfield 36, 3) := by decide +kernel
theorem dX2_copyFrom_72 : decode cX2_copyFrom 72 = .ok (.aload_n 1, 1) := by decide +kernel
theorem dX2_copyFrom_73 : decode cX2_copyFrom 73 = .ok (.getfield 39, 3) := by decide +kernel
theorem dX2_copyFrom_76 : decode cX2_copyFrom 76 = .ok (.iconst 0, 1) := by decide +kernel
theorem dX2_copyFrom_77 : decode cX2_copyFrom 77 = .ok (.aload_n 0, 1) := by decide +kernel
theorem dX2_copyFrom_78 : decode cX2_copyFrom 78 = .ok (.getfield 39, 3) := by decide +kernel
theorem dX2_copyFrom_81 : decode cX2_copyFrom 81 = .ok (.iconst 0, 1) := by decide +kernel
theorem dX2_copyFrom_82 : decode cX2_copyFrom 82 = .ok (.iconst 4, 1) := by decide +kernel
theorem dX2_copyFrom_83 : decode cX2_copyFrom 83 = .ok (.invokestatic 74, 3) := by decide +kernel
theorem dX2_copyFrom_86 : decode cX2_copyFrom 86 = .ok (.aload_n 1, 1) := by decide +kernel
theorem dX2_copyFrom_87 : decode cX2_copyFrom 87 = .ok (.getfield 43, 3) := by decide +kernel
theorem dX2_copyFrom_90 : decode cX2_copyFrom 90 = .ok (.iconst 0, 1) := by decide +kernel
theorem dX2_copyFrom_91 : decode cX2_copyFrom 91 = .ok (.aload_n 0, 1) := by decide +kernel
theorem dX2_copyFrom_92 : decode cX2_copyFrom 92 = .ok (.getfield 43, 3) := by decide +kernel
theorem dX2_copyFrom_95 : decode cX2_copyFrom 95 = .ok (.iconst 0, 1) := by decide +kernel
theorem dX2_copyFrom_96 : decode cX2_copyFrom 96 = .ok (.bipush 7, 2) := by decide +kernel
theorem dX2_copyFrom_98 : decode cX2_copyFrom 98 = .ok (.invokestatic 74, 3) := by decide +kernel
theorem dX2_copyFrom_101 : decode cX2_copyFrom 101 = .ok (.aload_n 1, 1) := by decide +kernel
theorem dX2_copyFrom_102 : decode cX2_copyFrom 102 = .ok (.getfield 46, 3) := by decide +kernel
theorem dX2_copyFrom_105 : decode cX2_copyFrom 105 = .ok (.iconst 0, 1) := by decide +kernel
theorem dX2_copyFrom_106 : decode cX2_copyFrom 106 = .ok (.aload_n 0, 1) := by decide +kernel
theorem dX2_copyFrom_107 : decode cX2_copyFrom 107 = .ok (.getfield 46, 3) := by decide +kernel
theorem dX2_copyFrom_110 : decode cX2_copyFrom 110 = .ok (.iconst 0, 1) := by decide +kernel
theorem dX2_copyFrom_111 : decode cX2_copyFrom 111 = .ok (.aload_n 0, 1) := by decide +kernel
theorem dX2_copyFrom_112 : decode cX2_copyFrom 112 = .ok (.getfield 46, 3) := by decide +kernel
theorem dX2_copyFrom_115 : decode cX2_copyFrom 115 = .ok (.arraylength, 1) := by decide +kernel
theorem dX2_copyFrom_116 : decode cX2_copyFrom 116 = .ok (.invokestatic 74, 3) := by decide +kernel
theorem dX2_copyFrom_119 : decode cX2_copyFrom 119 = .ok (.aload_n 1, 1) := by decide +kernel
theorem dX2_copyFrom_120 : decode cX2_copyFrom 120 = .ok (.getfield 49, 3) := by decide +kernel
theorem dX2_copyFrom_123 : decode cX2_copyFrom 123 = .ok (.iconst 0, 1) := by decide +kernel
theorem dX2_copyFrom_124 : decode cX2_copyFrom 124 = .ok (.aload_n 0, 1) := by decide +kernel
theorem dX2_copyFrom_125 : decode cX2_copyFrom 125 = .ok (.getfield 49, 3) := by decide +kernel
theorem dX2_copyFrom_128 : decode cX2_copyFrom 128 = .ok (.iconst 0, 1) := by decide +kernel
theorem dX2_copyFrom_129 : decode cX2_copyFrom 129 = .ok (.bipush 7, 2) := by decide +kernel
theorem dX2_copyFrom_131 : decode cX2_copyFrom 131 = .ok (.invokestatic 74, 3) := by decide +kernel
theorem dX2_copyFrom_134 : decode cX2_copyFrom 134 = .ok (.aload_n 1, 1) := by decide +kernel
theorem dX2_copyFrom_135 : decode cX2_copyFrom 135 = .ok (.getfield 52, 3) := by decide +kernel
theorem dX2_copyFrom_138 : decode cX2_copyFrom 138 = .ok (.iconst 0, 1) := by decide +kernel
theorem dX2_copyFrom_139 : decode cX2_copyFrom 139 = .ok (.aload_n 0, 1) := by decide +kernel
theorem dX2_copyFrom_140 : decode cX2_copyFrom 140 = .ok (.getfield 52, 3) := by decide +kernel
theorem dX2_copyFrom_143 : decode cX2_copyFrom 143 = .ok (.iconst 0, 1) := by decide +kernel
theorem dX2_copyFrom_144 : decode cX2_copyFrom 144 = .ok (.bipush 8, 2) := by decide +kernel
theorem dX2_copyFrom_146 : decode cX2_copyFrom 146 = .ok (.invokestatic 74, 3) := by decide +kernel
theorem dX2_copyFrom_149 : decode cX2_copyFrom 149 = .ok (.aload_n 1, 1) := by decide +kernel
theorem dX2_copyFrom_150 : decode cX2_copyFrom 150 = .ok (.getfield 55, 3) := by decide +kernel
theorem dX2_copyFrom_153 : decode cX2_copyFrom 153 = .ok (.iconst 0, 1) := by decide +kernel
theorem dX2_copyFrom_154 : decode cX2_copyFrom 154 = .ok (.aload_n 0, 1) := by decide +kernel
theorem dX2_copyFrom_155 : decode cX2_copyFrom 155 = .ok (.getfield 55, 3) := by decide +kernel
theorem dX2_copyFrom_158 : decode cX2_copyFrom 158 = .ok (.iconst 0, 1) := by decide +kernel
theorem dX2_copyFrom_159 : decode cX2_copyFrom 159 = .ok (.bipush 8, 2) := by decide +kernel
theorem dX2_copyFrom_161 : decode cX2_copyFrom 161 = .ok (.invokestatic 74, 3) := by decide +kernel
theorem dX2_copyFrom_164 : decode cX2_copyFrom 164 = .ok (.aload_n 0, 1) := by decide +kernel
theorem dX2_copyFrom_165 : decode cX2_copyFrom 165 = .ok (.getfield 61, 3) := by decide +kernel
theorem dX2_copyFrom_168 : decode cX2_copyFrom 168 = .ok (.aload_n 1, 1) := by decide +kernel
theorem dX2_copyFrom_169 : decode cX2_copyFrom 169 = .ok (.getfield 61, 3) := by decide +kernel
theorem dX2_copyFrom_172 : decode cX2_copyFrom 172 = .ok (.invokevirtual 80, 3) := by decide +kernel
theorem dX2_copyFrom_175 : decode cX2_copyFrom 175 = .ok (.return_, 1) := by decide +kernel
theorem dX2_addRoad_0 : decode cX2_addRoad 0 = .ok (.aload_n 0, 1) := by decide +kernel
theorem dX2_addRoad_1 : decode cX2_addRoad 1 = .ok (.getfield 46, 3) := by decide +kernel
theorem dX2_addRoad_4 : decode cX2_addRoad 4 = .ok (.iload_n 1, 1) := by decide +kernel
theorem dX2_addRoad_5 : decode cX2_addRoad 5 = .ok (.iconst 4, 1) := by decide +kernel
theorem dX2_addRoad_6 : decode cX2_addRoad 6 = .ok (.imul, 1) := by decide +kernel
theorem dX2_addRoad_7 : decode cX2_addRoad 7 = .ok (.aload_n 0, 1) := by decide +kernel
theorem dX2_addRoad_8 : decode cX2_addRoad 8 = .ok (.getfield 43, 3) := by decide +kernel
theorem dX2_addRoad_11 : decode cX2_addRoad 11 = .ok (.iload_n 1, 1) := by decide +kernel
theorem dX2_addRoad_12 : decode cX2_addRoad 12 = .ok (.iaload, 1) := by decide +kernel
theorem dX2_addRoad_13 : decode cX2_addRoad 13 = .ok (.iadd, 1) := by decide +kernel
theorem dX2_addRoad_14 : decode cX2_addRoad 14 = .ok (.iload_n 2, 1) := by decide +kernel
theorem dX2_addRoad_15 : decode cX2_addRoad 15 = .ok (.iastore, 1) := by decide +kernel
theorem dX2_addRoad_16 : decode cX2_addRoad 16 = .ok (.aload_n 0, 1) := by decide +kernel
theorem dX2_addRoad_17 : decode cX2_addRoad 17 = .ok (.getfield 43, 3) := by decide +kernel
theorem dX2_addRoad_20 : decode cX2_addRoad 20 = .ok (.iload_n 1, 1) := by decide +kernel
theorem dX2_addRoad_21 : decode cX2_addRoad 21 = .ok (.dup2, 1) := by decide +kernel
theorem dX2_addRoad_22 : decode cX2_addRoad 22 = .ok (.iaload, 1) := by decide +kernel
theorem dX2_addRoad_23 : decode cX2_addRoad 23 = .ok (.iconst 1, 1) := by decide +kernel
theorem dX2_addRoad_24 : decode cX2_addRoad 24 = .ok (.iadd, 1) := by decide +kernel
theorem dX2_addRoad_25 : decode cX2_addRoad 25 = .ok (.iastore, 1) := by decide +kernel
theorem dX2_addRoad_26 : decode cX2_addRoad 26 = .ok (.aload_n 0, 1) := by decide +kernel
theorem dX2_addRoad_27 : decode cX2_addRoad 27 = .ok (.dup, 1) := by decide +kernel
theorem dX2_addRoad_28 : decode cX2_addRoad 28 = .ok (.getfield 30, 3) := by decide +kernel
theorem dX2_addRoad_31 : decode cX2_addRoad 31 = .ok (.iconst 1, 1) := by decide +kernel
theorem dX2_addRoad_32 : decode cX2_addRoad 32 = .ok (.iadd, 1) := by decide +kernel
theorem dX2_addRoad_33 : decode cX2_addRoad 33 = .ok (.putfield 30, 3) := by decide +kernel
theorem dX2_addRoad_36 : decode cX2_addRoad 36 = .ok (.return_, 1) := by decide +kernel
theorem dX3_begin_0 : decode cX3_begin 0 = .ok (.aload_n 0, 1) := by decide +kernel
theorem dX3_begin_1 : decode cX3_begin 1 = .ok (.getfield 19, 3) := by decide +kernel
theorem dX3_begin_4 : decode cX3_begin 4 = .ok (.getfield 23, 3) := by decide +kernel
theorem dX3_begin_7 : decode cX3_begin 7 = .ok (.iconst 0, 1) := by decide +kernel
theorem dX3_begin_8 : decode cX3_begin 8 = .ok (.aload_n 0, 1) := by decide +kernel
theorem dX3_begin_9 : decode cX3_begin 9 = .ok (.getfield 9, 3) := by decide +kernel
theorem dX3_begin_12 : decode cX3_begin 12 = .ok (.iconst 0, 1) := by decide +kernel
theorem dX3_begin_13 : decode cX3_begin 13 = .ok (.bipush 7, 2) := by decide +kernel
theorem dX3_begin_15 : decode cX3_begin 15 = .ok (.invokestatic 28, 3) := by decide +kernel
theorem dX3_begin_18 : decode cX3_begin 18 = .ok (.return_, 1) := by decide +kernel
theorem dX3_setArms_0 : decode cX3_setArms 0 = .ok (.iload_n 1, 1) := by decide +kernel
theorem dX3_setArms_1 : decode cX3_setArms 1 = .ok (.istore_n 2, 1) := by decide +kernel
theorem dX3_setArms_2 : decode cX3_setArms 2 = .ok (.iconst 0, 1) := by decide +kernel
theorem dX3_setArms_3 : decode cX3_setArms 3 = .ok (.istore_n 3, 1) := by decide +kernel
theorem dX3_setArms_4 : decode cX3_setArms 4 = .ok (.iload_n 3, 1) := by decide +kernel
theorem dX3_setArms_5 : decode cX3_setArms 5 = .ok (.aload_n 0, 1) := by decide +kernel
theorem dX3_setArms_6 : decode cX3_setArms 6 = .ok (.getfield 19, 3) := by decide +kernel
theorem dX3_setArms_9 : decode cX3_setArms 9 = .ok (.getfield 34, 3) := by decide +kernel
theorem dX3_setArms_12 : decode cX3_setArms 12 = .ok (.if_icmp .ge 40, 3) := by decide +kernel
theorem dX3_setArms_15 : decode cX3_setArms 15 = .ok (.aload_n 0, 1) := by decide +kernel
theorem dX3_setArms_16 : decode cX3_setArms 16 = .ok (.getfield 19, 3) := by decide +kernel
theorem dX3_setArms_19 : decode cX3_setArms 19 = .ok (.getfield 37, 3) := by decide +kernel
theorem dX3_setArms_22 : decode cX3_setArms 22 = .ok (.iload_n 3, 1) := by decide +kernel
theorem dX3_setArms_23 : decode cX3_setArms 23 = .ok (.iaload, 1) := by decide +kernel
theorem dX3_setArms_24 : decode cX3_setArms 24 = .ok (.istore 4, 2) := by decide +kernel
theorem dX3_setArms_26 : decode cX3_setArms 26 = .ok (.iload 4, 2) := by decide +kernel
theorem dX3_setArms_28 : decode cX3_setArms 28 = .ok (.ifCond .le 18, 3) := by decide +kernel
theorem dX3_setArms_31 : decode cX3_setArms 31 = .ok (.aload_n 0, 1) := by decide +kernel
theorem dX3_setArms_32 : decode cX3_setArms 32 = .ok (.getfield 9, 3) := by decide +kernel
theorem dX3_setArms_35 : decode cX3_setArms 35 = .ok (.iload_n 3, 1) := by decide +kernel
theorem dX3_setArms_36 : decode cX3_setArms 36 = .ok (.iload_n 2, 1) := by decide +kernel
theorem dX3_setArms_37 : decode cX3_setArms 37 = .ok (.iload 4, 2) := by decide +kernel
theorem dX3_setArms_39 : decode cX3_setArms 39 = .ok (.irem, 1) := by decide +kernel
theorem dX3_setArms_40 : decode cX3_setArms 40 = .ok (.iastore, 1) := by decide +kernel
theorem dX3_setArms_41 : decode cX3_setArms 41 = .ok (.iload_n 2, 1) := by decide +kernel
theorem dX3_setArms_42 : decode cX3_setArms 42 = .ok (.iload 4, 2) := by decide +kernel
theorem dX3_setArms_44 : decode cX3_setArms 44 = .ok (.idiv, 1) := by decide +kernel
theorem dX3_setArms_45 : decode cX3_setArms 45 = .ok (.istore_n 2, 1) := by decide +kernel
theorem dX3_setArms_46 : decode cX3_setArms 46 = .ok (.iinc 3 1, 3) := by decide +kernel
theorem dX3_setArms_49 : decode cX3_setArms 49 = .ok (.goto (-45), 3) := by decide +kernel
theorem dX3_setArms_52 : decode cX3_setArms 52 = .ok (.return_, 1) := by decide +kernel
theorem dX3_sendFrom_0 : decode cX3_sendFrom 0 = .ok (.iload_n 1, 1) := by decide +kernel
theorem dX3_sendFrom_1 : decode cX3_sendFrom 1 = .ok (.istore_n 2, 1) := by decide +kernel
theorem dX3_sendFrom_2 : decode cX3_sendFrom 2 = .ok (.aload_n 0, 1) := by decide +kernel
theorem dX3_sendFrom_3 : decode cX3_sendFrom 3 = .ok (.iconst 0, 1) := by decide +kernel
theorem dX3_sendFrom_4 : decode cX3_sendFrom 4 = .ok (.putfield 15, 3) := by decide +kernel
theorem dX3_sendFrom_7 : decode cX3_sendFrom 7 = .ok (.aload_n 0, 1) := by decide +kernel
theorem dX3_sendFrom_8 : decode cX3_sendFrom 8 = .ok (.getfield 15, 3) := by decide +kernel
theorem dX3_sendFrom_11 : decode cX3_sendFrom 11 = .ok (.sipush 600, 3) := by decide +kernel
theorem dX3_sendFrom_14 : decode cX3_sendFrom 14 = .ok (.if_icmp .ge 62, 3) := by decide +kernel
theorem dX3_sendFrom_17 : decode cX3_sendFrom 17 = .ok (.iload_n 2, 1) := by decide +kernel
theorem dX3_sendFrom_18 : decode cX3_sendFrom 18 = .ok (.bipush 10, 2) := by decide +kernel
theorem dX3_sendFrom_20 : decode cX3_sendFrom 20 = .ok (.if_icmp .ge 56, 3) := by decide +kernel
theorem dX3_sendFrom_23 : decode cX3_sendFrom 23 = .ok (.aload_n 0, 1) := by decide +kernel
theorem dX3_sendFrom_24 : decode cX3_sendFrom 24 = .ok (.getfield 19, 3) := by decide +kernel
theorem dX3_sendFrom_27 : decode cX3_sendFrom 27 = .ok (.iload_n 2, 1) := by decide +kernel
theorem dX3_sendFrom_28 : decode cX3_sendFrom 28 = .ok (.invokevirtual 40, 3) := by decide +kernel
theorem dX3_sendFrom_31 : decode cX3_sendFrom 31 = .ok (.ifCond .eq 45, 3) := by decide +kernel
theorem dX3_sendFrom_34 : decode cX3_sendFrom 34 = .ok (.aload_n 0, 1) := by decide +kernel
theorem dX3_sendFrom_35 : decode cX3_sendFrom 35 = .ok (.getfield 19, 3) := by decide +kernel
theorem dX3_sendFrom_38 : decode cX3_sendFrom 38 = .ok (.iload_n 2, 1) := by decide +kernel
theorem dX3_sendFrom_39 : decode cX3_sendFrom 39 = .ok (.aload_n 0, 1) := by decide +kernel
theorem dX3_sendFrom_40 : decode cX3_sendFrom 40 = .ok (.getfield 19, 3) := by decide +kernel
theorem dX3_sendFrom_43 : decode cX3_sendFrom 43 = .ok (.aload_n 0, 1) := by decide +kernel
theorem dX3_sendFrom_44 : decode cX3_sendFrom 44 = .ok (.getfield 9, 3) := by decide +kernel
theorem dX3_sendFrom_47 : decode cX3_sendFrom 47 = .ok (.iconst 0, 1) := by decide +kernel
theorem dX3_sendFrom_48 : decode cX3_sendFrom 48 = .ok (.iload_n 2, 1) := by decide +kernel
theorem dX3_sendFrom_49 : decode cX3_sendFrom 49 = .ok (.aload_n 0, 1) := by decide +kernel
theorem dX3_sendFrom_50 : decode cX3_sendFrom 50 = .ok (.getfield 19, 3) := by decide +kernel
theorem dX3_sendFrom_53 : decode cX3_sendFrom 53 = .ok (.getfield 44, 3) := by decide +kernel
theorem dX3_sendFrom_56 : decode cX3_sendFrom 56 = .ok (.invokevirtual 47, 3) := by decide +kernel
theorem dX3_sendFrom_59 : decode cX3_sendFrom 59 = .ok (.invokevirtual 51, 3) := by decide +kernel
theorem dX3_sendFrom_62 : decode cX3_sendFrom 62 = .ok (.istore_n 2, 1) := by decide +kernel
theorem dX3_sendFrom_63 : decode cX3_sendFrom 63 = .ok (.aload_n 0, 1) := by decide +kernel
theorem dX3_sendFrom_64 : decode cX3_sendFrom 64 = .ok (.dup, 1) := by decide +kernel
theorem dX3_sendFrom_65 : decode cX3_sendFrom 65 = .ok (.getfield 15, 3) := by decide +kernel
theorem dX3_sendFrom_68 : decode cX3_sendFrom 68 = .ok (.iconst 1, 1) := by decide +kernel
theorem dX3_sendFrom_69 : decode cX3_sendFrom 69 = .ok (.iadd, 1) := by decide +kernel
theorem dX3_sendFrom_70 : decode cX3_sendFrom 70 = .ok (.putfield 15, 3) := by decide +kernel
theorem dX3_sendFrom_73 : decode cX3_sendFrom 73 = .ok (.goto (-66), 3) := by decide +kernel
theorem dX3_sendFrom_76 : decode cX3_sendFrom 76 = .ok (.iload_n 2, 1) := by decide +kernel
theorem dX3_sendFrom_77 : decode cX3_sendFrom 77 = .ok (.bipush 10, 2) := by decide +kernel
theorem dX3_sendFrom_79 : decode cX3_sendFrom 79 = .ok (.if_icmp .lt 10, 3) := by decide +kernel
theorem dX3_sendFrom_82 : decode cX3_sendFrom 82 = .ok (.iload_n 2, 1) := by decide +kernel
theorem dX3_sendFrom_83 : decode cX3_sendFrom 83 = .ok (.bipush 10, 2) := by decide +kernel
theorem dX3_sendFrom_85 : decode cX3_sendFrom 85 = .ok (.isub, 1) := by decide +kernel
theorem dX3_sendFrom_86 : decode cX3_sendFrom 86 = .ok (.goto 4, 3) := by decide +kernel
theorem dX3_sendFrom_89 : decode cX3_sendFrom 89 = .ok (.iconst (-1), 1) := by decide +kernel
theorem dX3_sendFrom_90 : decode cX3_sendFrom 90 = .ok (.ireturn, 1) := by decide +kernel
theorem dX3_settingNow_0 : decode cX3_settingNow 0 = .ok (.aload_n 0, 1) := by decide +kernel
theorem dX3_settingNow_1 : decode cX3_settingNow 1 = .ok (.getfield 19, 3) := by decide +kernel
theorem dX3_settingNow_4 : decode cX3_settingNow 4 = .ok (.aload_n 0, 1) := by decide +kernel
theorem dX3_settingNow_5 : decode cX3_settingNow 5 = .ok (.getfield 9, 3) := by decide +kernel
theorem dX3_settingNow_8 : decode cX3_settingNow 8 = .ok (.iconst 0, 1) := by decide +kernel
theorem dX3_settingNow_9 : decode cX3_settingNow 9 = .ok (.invokevirtual 55, 3) := by decide +kernel
theorem dX3_settingNow_12 : decode cX3_settingNow 12 = .ok (.ireturn, 1) := by decide +kernel
theorem layX3 : ∀ k, k < 3 → u_lay RX3 TX3 k ∈ tblG := fun k hk => match k, hk with
  | 0, _ => gw1 235 (by decide +kernel) (by decide +kernel)
  | 1, _ => gw1 237 (by decide +kernel) (by decide +kernel)
  | 2, _ => gw1 239 (by decide +kernel) (by decide +kernel)
  | k + 3, hk => absurd hk (by omega)
theorem clX3 : CLk 3 RX3 TX3 3 tyX3 := ⟨rfl, fun w hw => by
  obtain ⟨k, hk, rfl⟩ := List.mem_map.mp hw
  exact layX3 k (List.mem_range.mp hk), tyX3_ok, nmX3⟩
theorem wd149 : Cond.fieldLink RX3 19 RX3 "heath" "LObligingPosts$Heath;" ∈ tblG := gw1 230 (by decide +kernel) (by decide +kernel)
theorem fk_X3_19 : FLk RX3 19 3 0 (.object "ObligingPosts$Heath") true := ⟨RX3, TX3, 3, tyX3, clX3, by decide, rfl, rfl, rfl, Or.inl wd149⟩
theorem fk_X3_23 : FLk RX3 23 2 12 (.array .int) true := ⟨RX2, TX2, 16, tyX2, clX2, by decide, rfl, rfl, rfl, Or.inr ⟨"ObligingPosts", List.mem_of_getElem? (i := 36) (by decide +kernel)⟩⟩
theorem wd150 : Cond.fieldLink RX3 9 RX3 "arms" "[I" ∈ tblG := gw1 231 (by decide +kernel) (by decide +kernel)
theorem fk_X3_9 : FLk RX3 9 3 1 (.array .int) true := ⟨RX3, TX3, 3, tyX3, clX3, by decide, rfl, rfl, rfl, Or.inl wd150⟩
theorem wd151 : Cond.methodLink RX3 28 arraycopyName ∈ tblG := gw4 162 (by decide +kernel) (by decide +kernel)
theorem fk_X3_34 : FLk RX3 34 2 5 (.int) false := ⟨RX2, TX2, 16, tyX2, clX2, by decide, rfl, rfl, rfl, Or.inr ⟨"ObligingPosts", List.mem_of_getElem? (i := 37) (by decide +kernel)⟩⟩
theorem fk_X3_37 : FLk RX3 37 2 10 (.array .int) true := ⟨RX2, TX2, 16, tyX2, clX2, by decide, rfl, rfl, rfl, Or.inr ⟨"ObligingPosts", List.mem_of_getElem? (i := 38) (by decide +kernel)⟩⟩
theorem wd152 : Cond.fieldLink RX3 15 RX3 "timesSent" "I" ∈ tblG := gw1 233 (by decide +kernel) (by decide +kernel)
theorem fk_X3_15 : FLk RX3 15 3 2 (.int) false := ⟨RX3, TX3, 3, tyX3, clX3, by decide, rfl, rfl, rfl, Or.inl wd152⟩
theorem wd153 : Cond.methodLink RX3 40 yX2_hasArm ∈ tblG := gw4 167 (by decide +kernel) (by decide +kernel)
theorem lk_X3_40 : LkV RX3 40 2 yX2_hasArm cX2_hasArm 2 (some .boolean) 1 := ⟨⟨TX2, 16, rfl⟩, wd153, wd21, wd22, wd7, wd23, pl_X2_hasArm⟩
theorem fk_X3_44 : FLk RX3 44 2 2 (.int) false := ⟨RX2, TX2, 16, tyX2, clX2, by decide, rfl, rfl, rfl, Or.inr ⟨"ObligingPosts", List.mem_of_getElem? (i := 39) (by decide +kernel)⟩⟩
theorem wd154 : Cond.methodLink RX3 47 yX2_sendBy ∈ tblG := gw4 168 (by decide +kernel) (by decide +kernel)
theorem lk_X3_47 : LkV RX3 47 2 yX2_sendBy cX2_sendBy 7 (some .int) 4 := ⟨⟨TX2, 16, rfl⟩, wd154, wd109, wd110, wd7, wd111, pl_X2_sendBy⟩
theorem wd155 : Cond.methodLink RX3 51 yX2_goal ∈ tblG := gw4 169 (by decide +kernel) (by decide +kernel)
theorem lk_X3_51 : LkV RX3 51 2 yX2_goal cX2_goal 3 (some .int) 2 := ⟨⟨TX2, 16, rfl⟩, wd155, wd17, wd18, wd7, wd19, pl_X2_goal⟩
theorem wd156 : Cond.methodLink RX3 55 yX2_settingNumber ∈ tblG := gw4 182 (by decide +kernel) (by decide +kernel)
theorem wd157 : Cond.instanceMethod yX2_settingNumber ∈ tblG := gw4 139 (by decide +kernel) (by decide +kernel)
theorem wd158 : Cond.selects RX2 yX2_settingNumber yX2_settingNumber ∈ tblG := gw4 140 (by decide +kernel) (by decide +kernel)
theorem wd159 : Cond.code yX2_settingNumber cX2_settingNumber 6 (some .int) ∈ tblG := gw4 141 (by decide +kernel) (by decide +kernel)
theorem pl_X2_settingNumber : Plain yX2_settingNumber 2 := ⟨by decide, by decide, by decide +kernel⟩
theorem lk_X3_55 : LkV RX3 55 2 yX2_settingNumber cX2_settingNumber 6 (some .int) 2 := ⟨⟨TX2, 16, rfl⟩, wd156, wd157, wd158, wd7, wd159, pl_X2_settingNumber⟩
theorem wd160 : Cond.fieldLink RX0 9 RX0 "size" "I" ∈ tblG := gw1 73 (by decide +kernel) (by decide +kernel)
theorem fk_X0_9 : FLk RX0 9 0 0 (.int) false := ⟨RX0, TX0, 3, tyX0, clX0, by decide, rfl, rfl, rfl, Or.inl wd160⟩
theorem wd161 : Cond.methodLink RX0 22 yJ7_fill_53178 ∈ tblG := gw2 92 (by decide +kernel) (by decide +kernel)
theorem lk_X0_22 : LkS RX0 22 yJ7_fill_53178 cJ7_fill_53178 4 none 2 := ⟨wd161, wd101, wd102, wd103, pl_J7_fill_53178⟩
theorem wd162 : Cond.fieldLink RX0 15 RX0 "codes" "[I" ∈ tblG := gw1 75 (by decide +kernel) (by decide +kernel)
theorem fk_X0_15 : FLk RX0 15 0 1 (.array .int) true := ⟨RX0, TX0, 3, tyX0, clX0, by decide, rfl, rfl, rfl, Or.inl wd162⟩
theorem wd163 : Cond.methodLink RX0 28 arraycopyName ∈ tblG := gw3 2 (by decide +kernel) (by decide +kernel)
theorem wd164 : Cond.fieldLink RX2 18 RX2 "law" "I" ∈ tblG := gw1 93 (by decide +kernel) (by decide +kernel)
theorem fk_X2_18 : FLk RX2 18 2 2 (.int) false := ⟨RX2, TX2, 16, tyX2, clX2, by decide, rfl, rfl, rfl, Or.inl wd164⟩
theorem wd165 : Cond.fieldLink RX2 21 RX2 "odds" "I" ∈ tblG := gw1 98 (by decide +kernel) (by decide +kernel)
theorem fk_X2_21 : FLk RX2 21 2 3 (.int) false := ⟨RX2, TX2, 16, tyX2, clX2, by decide, rfl, rfl, rfl, Or.inl wd165⟩
theorem wd166 : Cond.fieldLink RX2 30 RX2 "roads" "I" ∈ tblG := gw1 110 (by decide +kernel) (by decide +kernel)
theorem fk_X2_30 : FLk RX2 30 2 6 (.int) false := ⟨RX2, TX2, 16, tyX2, clX2, by decide, rfl, rfl, rfl, Or.inl wd166⟩
theorem wd167 : Cond.fieldLink RX2 33 RX2 "armLines" "I" ∈ tblG := gw1 113 (by decide +kernel) (by decide +kernel)
theorem fk_X2_33 : FLk RX2 33 2 7 (.int) false := ⟨RX2, TX2, 16, tyX2, clX2, by decide, rfl, rfl, rfl, Or.inl wd167⟩
theorem wd168 : Cond.fieldLink RX2 39 RX2 "rooms" "[I" ∈ tblG := gw1 121 (by decide +kernel) (by decide +kernel)
theorem fk_X2_39 : FLk RX2 39 2 9 (.array .int) true := ⟨RX2, TX2, 16, tyX2, clX2, by decide, rfl, rfl, rfl, Or.inl wd168⟩
theorem wd169 : Cond.methodLink RX2 74 arraycopyName ∈ tblG := gw2 235 (by decide +kernel) (by decide +kernel)
theorem wd170 : Cond.fieldLink RX2 49 RX2 "toldArms" "[I" ∈ tblG := gw1 131 (by decide +kernel) (by decide +kernel)
theorem fk_X2_49 : FLk RX2 49 2 12 (.array .int) true := ⟨RX2, TX2, 16, tyX2, clX2, by decide, rfl, rfl, rfl, Or.inl wd170⟩
theorem wd171 : Cond.fieldLink RX2 52 RX2 "starts" "[I" ∈ tblG := gw1 136 (by decide +kernel) (by decide +kernel)
theorem fk_X2_52 : FLk RX2 52 2 13 (.array .int) true := ⟨RX2, TX2, 16, tyX2, clX2, by decide, rfl, rfl, rfl, Or.inl wd171⟩
theorem wd172 : Cond.fieldLink RX2 55 RX2 "comings" "[I" ∈ tblG := gw1 140 (by decide +kernel) (by decide +kernel)
theorem fk_X2_55 : FLk RX2 55 2 14 (.array .int) true := ⟨RX2, TX2, 16, tyX2, clX2, by decide, rfl, rfl, rfl, Or.inl wd172⟩
theorem wd173 : Cond.fieldLink RX2 61 RX2 "acts" "LObligingPosts$Acts;" ∈ tblG := gw1 144 (by decide +kernel) (by decide +kernel)
theorem fk_X2_61 : FLk RX2 61 2 15 (.object "ObligingPosts$Acts") true := ⟨RX2, TX2, 16, tyX2, clX2, by decide, rfl, rfl, rfl, Or.inl wd173⟩
theorem wd174 : Cond.methodLink RX2 80 yX0_copyFrom ∈ tblG := gw2 238 (by decide +kernel) (by decide +kernel)
theorem wd175 : Cond.instanceMethod yX0_copyFrom ∈ tblG := gw2 239 (by decide +kernel) (by decide +kernel)
theorem wd176 : Cond.selects RX0 yX0_copyFrom yX0_copyFrom ∈ tblG := gw3 0 (by decide +kernel) (by decide +kernel)
theorem wd177 : Cond.code yX0_copyFrom cX0_copyFrom 2 none ∈ tblG := gw3 1 (by decide +kernel) (by decide +kernel)
theorem pl_X0_copyFrom : Plain yX0_copyFrom 1 := ⟨by decide, by decide, by decide +kernel⟩
theorem lk_X2_80 : LkV RX2 80 0 yX0_copyFrom cX0_copyFrom 2 none 1 := ⟨⟨TX0, 3, rfl⟩, wd174, wd175, wd176, wd93, wd177, pl_X0_copyFrom⟩
theorem wd178 : Cond.methodLink RX2 65 yJ7_fill_53178 ∈ tblG := gw2 85 (by decide +kernel) (by decide +kernel)
theorem lk_X2_65 : LkS RX2 65 yJ7_fill_53178 cJ7_fill_53178 4 none 2 := ⟨wd178, wd101, wd102, wd103, pl_J7_fill_53178⟩
theorem wd179 : Cond.methodLink RX2 71 yX0_clear ∈ tblG := gw2 88 (by decide +kernel) (by decide +kernel)
theorem wd180 : Cond.instanceMethod yX0_clear ∈ tblG := gw2 89 (by decide +kernel) (by decide +kernel)
theorem wd181 : Cond.selects RX0 yX0_clear yX0_clear ∈ tblG := gw2 90 (by decide +kernel) (by decide +kernel)
theorem wd182 : Cond.code yX0_clear cX0_clear 1 none ∈ tblG := gw2 91 (by decide +kernel) (by decide +kernel)
theorem pl_X0_clear : Plain yX0_clear 0 := ⟨by decide, by decide, by decide +kernel⟩
theorem lk_X2_71 : LkV RX2 71 0 yX0_clear cX0_clear 1 none 0 := ⟨⟨TX0, 3, rfl⟩, wd179, wd180, wd181, wd93, wd182, pl_X0_clear⟩
