theorem dX8_image_0 : decode cX8_image 0 = .ok (.iload_n 1, 1) := by decide +kernel
theorem dX8_image_1 : decode cX8_image 1 = .ok (.i2l, 1) := by decide +kernel
theorem dX8_image_2 : decode cX8_image 2 = .ok (.lconst 0, 1) := by decide +kernel
theorem dX8_image_3 : decode cX8_image 3 = .ok (.ldc2_w 92, 3) := by decide +kernel
theorem dX8_image_6 : decode cX8_image 6 = .ok (.invokestatic 94, 3) := by decide +kernel
theorem dX8_image_9 : decode cX8_image 9 = .ok (.ifCond .ne 6, 3) := by decide +kernel
theorem dX8_image_12 : decode cX8_image 12 = .ok (.bipush (-2), 2) := by decide +kernel
theorem dX8_image_14 : decode cX8_image 14 = .ok (.ireturn, 1) := by decide +kernel
theorem dX8_image_15 : decode cX8_image 15 = .ok (.iconst 0, 1) := by decide +kernel
theorem dX8_image_16 : decode cX8_image 16 = .ok (.istore_n 2, 1) := by decide +kernel
theorem dX8_image_17 : decode cX8_image 17 = .ok (.iload_n 2, 1) := by decide +kernel
theorem dX8_image_18 : decode cX8_image 18 = .ok (.bipush 102, 2) := by decide +kernel
theorem dX8_image_20 : decode cX8_image 20 = .ok (.if_icmp .ge 26, 3) := by decide +kernel
theorem dX8_image_23 : decode cX8_image 23 = .ok (.aload_n 0, 1) := by decide +kernel
theorem dX8_image_24 : decode cX8_image 24 = .ok (.getfield 13, 3) := by decide +kernel
theorem dX8_image_27 : decode cX8_image 27 = .ok (.bipush 102, 2) := by decide +kernel
theorem dX8_image_29 : decode cX8_image 29 = .ok (.iload_n 1, 1) := by decide +kernel
theorem dX8_image_30 : decode cX8_image 30 = .ok (.imul, 1) := by decide +kernel
theorem dX8_image_31 : decode cX8_image 31 = .ok (.iload_n 2, 1) := by decide +kernel
theorem dX8_image_32 : decode cX8_image 32 = .ok (.iadd, 1) := by decide +kernel
theorem dX8_image_33 : decode cX8_image 33 = .ok (.aload_n 0, 1) := by decide +kernel
theorem dX8_image_34 : decode cX8_image 34 = .ok (.getfield 9, 3) := by decide +kernel
theorem dX8_image_37 : decode cX8_image 37 = .ok (.iload_n 2, 1) := by decide +kernel
theorem dX8_image_38 : decode cX8_image 38 = .ok (.iaload, 1) := by decide +kernel
theorem dX8_image_39 : decode cX8_image 39 = .ok (.iastore, 1) := by decide +kernel
theorem dX8_image_40 : decode cX8_image 40 = .ok (.iinc 2 1, 3) := by decide +kernel
theorem dX8_image_43 : decode cX8_image 43 = .ok (.goto (-26), 3) := by decide +kernel
theorem dX8_image_46 : decode cX8_image 46 = .ok (.aload_n 0, 1) := by decide +kernel
theorem dX8_image_47 : decode cX8_image 47 = .ok (.getfield 16, 3) := by decide +kernel
theorem dX8_image_50 : decode cX8_image 50 = .ok (.iload_n 1, 1) := by decide +kernel
theorem dX8_image_51 : decode cX8_image 51 = .ok (.iconst 1, 1) := by decide +kernel
theorem dX8_image_52 : decode cX8_image 52 = .ok (.bastore, 1) := by decide +kernel
theorem dX8_image_53 : decode cX8_image 53 = .ok (.iconst 0, 1) := by decide +kernel
theorem dX8_image_54 : decode cX8_image 54 = .ok (.ireturn, 1) := by decide +kernel
theorem dX8_back_0 : decode cX8_back 0 = .ok (.iload_n 1, 1) := by decide +kernel
theorem dX8_back_1 : decode cX8_back 1 = .ok (.i2l, 1) := by decide +kernel
theorem dX8_back_2 : decode cX8_back 2 = .ok (.lconst 0, 1) := by decide +kernel
theorem dX8_back_3 : decode cX8_back 3 = .ok (.ldc2_w 92, 3) := by decide +kernel
theorem dX8_back_6 : decode cX8_back 6 = .ok (.invokestatic 94, 3) := by decide +kernel
theorem dX8_back_9 : decode cX8_back 9 = .ok (.ifCond .ne 6, 3) := by decide +kernel
theorem dX8_back_12 : decode cX8_back 12 = .ok (.bipush (-2), 2) := by decide +kernel
theorem dX8_back_14 : decode cX8_back 14 = .ok (.ireturn, 1) := by decide +kernel
theorem dX8_back_15 : decode cX8_back 15 = .ok (.aload_n 0, 1) := by decide +kernel
theorem dX8_back_16 : decode cX8_back 16 = .ok (.getfield 16, 3) := by decide +kernel
theorem dX8_back_19 : decode cX8_back 19 = .ok (.iload_n 1, 1) := by decide +kernel
theorem dX8_back_20 : decode cX8_back 20 = .ok (.baload, 1) := by decide +kernel
theorem dX8_back_21 : decode cX8_back 21 = .ok (.ifCond .ne 6, 3) := by decide +kernel
theorem dX8_back_24 : decode cX8_back 24 = .ok (.bipush (-6), 2) := by decide +kernel
theorem dX8_back_26 : decode cX8_back 26 = .ok (.ireturn, 1) := by decide +kernel
theorem dX8_back_27 : decode cX8_back 27 = .ok (.iconst 0, 1) := by decide +kernel
theorem dX8_back_28 : decode cX8_back 28 = .ok (.istore_n 2, 1) := by decide +kernel
theorem dX8_back_29 : decode cX8_back 29 = .ok (.iload_n 2, 1) := by decide +kernel
theorem dX8_back_30 : decode cX8_back 30 = .ok (.bipush 102, 2) := by decide +kernel
theorem dX8_back_32 : decode cX8_back 32 = .ok (.if_icmp .ge 26, 3) := by decide +kernel
theorem dX8_back_35 : decode cX8_back 35 = .ok (.aload_n 0, 1) := by decide +kernel
theorem dX8_back_36 : decode cX8_back 36 = .ok (.getfield 9, 3) := by decide +kernel
theorem dX8_back_39 : decode cX8_back 39 = .ok (.iload_n 2, 1) := by decide +kernel
theorem dX8_back_40 : decode cX8_back 40 = .ok (.aload_n 0, 1) := by decide +kernel
theorem dX8_back_41 : decode cX8_back 41 = .ok (.getfield 13, 3) := by decide +kernel
theorem dX8_back_44 : decode cX8_back 44 = .ok (.bipush 102, 2) := by decide +kernel
theorem dX8_back_46 : decode cX8_back 46 = .ok (.iload_n 1, 1) := by decide +kernel
theorem dX8_back_47 : decode cX8_back 47 = .ok (.imul, 1) := by decide +kernel
theorem dX8_back_48 : decode cX8_back 48 = .ok (.iload_n 2, 1) := by decide +kernel
theorem dX8_back_49 : decode cX8_back 49 = .ok (.iadd, 1) := by decide +kernel
theorem dX8_back_50 : decode cX8_back 50 = .ok (.iaload, 1) := by decide +kernel
theorem dX8_back_51 : decode cX8_back 51 = .ok (.iastore, 1) := by decide +kernel
theorem dX8_back_52 : decode cX8_back 52 = .ok (.iinc 2 1, 3) := by decide +kernel
theorem dX8_back_55 : decode cX8_back 55 = .ok (.goto (-26), 3) := by decide +kernel
theorem dX8_back_58 : decode cX8_back 58 = .ok (.iconst 0, 1) := by decide +kernel
theorem dX8_back_59 : decode cX8_back 59 = .ok (.ireturn, 1) := by decide +kernel
theorem dX8_heath_0 : decode cX8_heath 0 = .ok (.aload_n 0, 1) := by decide +kernel
theorem dX8_heath_1 : decode cX8_heath 1 = .ok (.aload_n 0, 1) := by decide +kernel
theorem dX8_heath_2 : decode cX8_heath 2 = .ok (.getfield 121, 3) := by decide +kernel
theorem dX8_heath_5 : decode cX8_heath 5 = .ok (.putfield 124, 3) := by decide +kernel
theorem dX8_heath_8 : decode cX8_heath 8 = .ok (.aload_n 0, 1) := by decide +kernel
theorem dX8_heath_9 : decode cX8_heath 9 = .ok (.iconst 0, 1) := by decide +kernel
theorem dX8_heath_10 : decode cX8_heath 10 = .ok (.putfield 121, 3) := by decide +kernel
theorem dX8_heath_13 : decode cX8_heath 13 = .ok (.aload_n 0, 1) := by decide +kernel
theorem dX8_heath_14 : decode cX8_heath 14 = .ok (.iconst 0, 1) := by decide +kernel
theorem dX8_heath_15 : decode cX8_heath 15 = .ok (.putfield 127, 3) := by decide +kernel
theorem dX8_heath_18 : decode cX8_heath 18 = .ok (.aload_n 0, 1) := by decide +kernel
theorem dX8_heath_19 : decode cX8_heath 19 = .ok (.iconst 0, 1) := by decide +kernel
theorem dX8_heath_20 : decode cX8_heath 20 = .ok (.putfield 158, 3) := by decide +kernel
theorem dX8_heath_23 : decode cX8_heath 23 = .ok (.aload_n 0, 1) := by decide +kernel
theorem dX8_heath_24 : decode cX8_heath 24 = .ok (.iconst (-1), 1) := by decide +kernel
theorem dX8_heath_25 : decode cX8_heath 25 = .ok (.putfield 27, 3) := by decide +kernel
theorem dX8_heath_28 : decode cX8_heath 28 = .ok (.iconst 0, 1) := by decide +kernel
theorem dX8_heath_29 : decode cX8_heath 29 = .ok (.istore_n 1, 1) := by decide +kernel
theorem dX8_heath_30 : decode cX8_heath 30 = .ok (.iload_n 1, 1) := by decide +kernel
theorem dX8_heath_31 : decode cX8_heath 31 = .ok (.bipush 102, 2) := by decide +kernel
theorem dX8_heath_33 : decode cX8_heath 33 = .ok (.if_icmp .ge 16, 3) := by decide +kernel
theorem dX8_heath_36 : decode cX8_heath 36 = .ok (.aload_n 0, 1) := by decide +kernel
theorem dX8_heath_37 : decode cX8_heath 37 = .ok (.getfield 31, 3) := by decide +kernel
theorem dX8_heath_40 : decode cX8_heath 40 = .ok (.iload_n 1, 1) := by decide +kernel
theorem dX8_heath_41 : decode cX8_heath 41 = .ok (.iconst 0, 1) := by decide +kernel
theorem dX8_heath_42 : decode cX8_heath 42 = .ok (.iastore, 1) := by decide +kernel
theorem dX8_heath_43 : decode cX8_heath 43 = .ok (.iinc 1 1, 3) := by decide +kernel
theorem dX8_heath_46 : decode cX8_heath 46 = .ok (.goto (-16), 3) := by decide +kernel
theorem dX8_heath_49 : decode cX8_heath 49 = .ok (.aload_n 0, 1) := by decide +kernel
theorem dX8_heath_50 : decode cX8_heath 50 = .ok (.invokevirtual 177, 3) := by decide +kernel
theorem dX8_heath_53 : decode cX8_heath 53 = .ok (.aload_n 0, 1) := by decide +kernel
theorem dX8_heath_54 : decode cX8_heath 54 = .ok (.invokevirtual 161, 3) := by decide +kernel
theorem dX8_heath_57 : decode cX8_heath 57 = .ok (.ifCond .eq 17, 3) := by decide +kernel
theorem dX8_heath_60 : decode cX8_heath 60 = .ok (.aload_n 0, 1) := by decide +kernel
theorem dX8_heath_61 : decode cX8_heath 61 = .ok (.getfield 137, 3) := by decide +kernel
theorem dX8_heath_64 : decode cX8_heath 64 = .ok (.ifCond .eq 10, 3) := by decide +kernel
theorem dX8_heath_67 : decode cX8_heath 67 = .ok (.aload_n 0, 1) := by decide +kernel
theorem dX8_heath_68 : decode cX8_heath 68 = .ok (.invokevirtual 242, 3) := by decide +kernel
theorem dX8_heath_71 : decode cX8_heath 71 = .ok (.goto (-18), 3) := by decide +kernel
theorem dX8_heath_74 : decode cX8_heath 74 = .ok (.aload_n 0, 1) := by decide +kernel
theorem dX8_heath_75 : decode cX8_heath 75 = .ok (.invokevirtual 161, 3) := by decide +kernel
theorem dX8_heath_78 : decode cX8_heath 78 = .ok (.ifCond .ne 6, 3) := by decide +kernel
theorem dX8_heath_81 : decode cX8_heath 81 = .ok (.bipush (-4), 2) := by decide +kernel
theorem dX8_heath_83 : decode cX8_heath 83 = .ok (.ireturn, 1) := by decide +kernel
theorem dX8_heath_84 : decode cX8_heath 84 = .ok (.iconst 0, 1) := by decide +kernel
theorem dX8_heath_85 : decode cX8_heath 85 = .ok (.istore_n 1, 1) := by decide +kernel
theorem dX8_heath_86 : decode cX8_heath 86 = .ok (.iload_n 1, 1) := by decide +kernel
theorem dX8_heath_87 : decode cX8_heath 87 = .ok (.bipush 102, 2) := by decide +kernel
theorem dX8_heath_89 : decode cX8_heath 89 = .ok (.if_icmp .ge 21, 3) := by decide +kernel
theorem dX8_heath_92 : decode cX8_heath 92 = .ok (.aload_n 0, 1) := by decide +kernel
theorem dX8_heath_93 : decode cX8_heath 93 = .ok (.getfield 9, 3) := by decide +kernel
theorem dX8_heath_96 : decode cX8_heath 96 = .ok (.iload_n 1, 1) := by decide +kernel
theorem dX8_heath_97 : decode cX8_heath 97 = .ok (.aload_n 0, 1) := by decide +kernel
theorem dX8_heath_98 : decode cX8_heath 98 = .ok (.getfield 31, 3) := by decide +kernel
theorem dX8_heath_101 : decode cX8_heath 101 = .ok (.iload_n 1, 1) := by decide +kernel
theorem dX8_heath_102 : decode cX8_heath 102 = .ok (.iaload, 1) := by decide +kernel
theorem dX8_heath_103 : decode cX8_heath 103 = .ok (.iastore, 1) := by decide +kernel
theorem dX8_heath_104 : decode cX8_heath 104 = .ok (.iinc 1 1, 3) := by decide +kernel
theorem dX8_heath_107 : decode cX8_heath 107 = .ok (.goto (-21), 3) := by decide +kernel
theorem dX8_heath_110 : decode cX8_heath 110 = .ok (.aload_n 0, 1) := by decide +kernel
theorem dX8_heath_111 : decode cX8_heath 111 = .ok (.getfield 9, 3) := by decide +kernel
theorem dX8_heath_114 : decode cX8_heath 114 = .ok (.bipush 9, 2) := by decide +kernel
theorem dX8_heath_116 : decode cX8_heath 116 = .ok (.iaload, 1) := by decide +kernel
theorem dX8_heath_117 : decode cX8_heath 117 = .ok (.ireturn, 1) := by decide +kernel
theorem dX8_clipped_0 : decode cX8_clipped 0 = .ok (.bipush 64, 2) := by decide +kernel
theorem dX8_clipped_2 : decode cX8_clipped 2 = .ok (.bipush 8, 2) := by decide +kernel
theorem dX8_clipped_4 : decode cX8_clipped 4 = .ok (.iload_n 2, 1) := by decide +kernel
theorem dX8_clipped_5 : decode cX8_clipped 5 = .ok (.ishl, 1) := by decide +kernel
theorem dX8_clipped_6 : decode cX8_clipped 6 = .ok (.isub, 1) := by decide +kernel
theorem dX8_clipped_7 : decode cX8_clipped 7 = .ok (.istore_n 3, 1) := by decide +kernel
theorem dX8_clipped_8 : decode cX8_clipped 8 = .ok (.lload_n 0, 1) := by decide +kernel
theorem dX8_clipped_9 : decode cX8_clipped 9 = .ok (.iload_n 3, 1) := by decide +kernel
theorem dX8_clipped_10 : decode cX8_clipped 10 = .ok (.lshl, 1) := by decide +kernel
theorem dX8_clipped_11 : decode cX8_clipped 11 = .ok (.iload_n 3, 1) := by decide +kernel
theorem dX8_clipped_12 : decode cX8_clipped 12 = .ok (.lshr, 1) := by decide +kernel
theorem dX8_clipped_13 : decode cX8_clipped 13 = .ok (.lreturn, 1) := by decide +kernel
theorem dX8_row_0 : decode cX8_row 0 = .ok (.iload_n 1, 1) := by decide +kernel
theorem dX8_row_1 : decode cX8_row 1 = .ok (.invokestatic 394, 3) := by decide +kernel
theorem dX8_row_4 : decode cX8_row 4 = .ok (.ifCond .eq 21, 3) := by decide +kernel
theorem dX8_row_7 : decode cX8_row 7 = .ok (.iload_n 2, 1) := by decide +kernel
theorem dX8_row_8 : decode cX8_row 8 = .ok (.i2l, 1) := by decide +kernel
theorem dX8_row_9 : decode cX8_row 9 = .ok (.lconst 0, 1) := by decide +kernel
theorem dX8_row_10 : decode cX8_row 10 = .ok (.ldc2_w 428, 3) := by decide +kernel
theorem dX8_row_13 : decode cX8_row 13 = .ok (.invokestatic 94, 3) := by decide +kernel
theorem dX8_row_16 : decode cX8_row 16 = .ok (.ifCond .eq 9, 3) := by decide +kernel
theorem dX8_row_19 : decode cX8_row 19 = .ok (.iload_n 3, 1) := by decide +kernel
theorem dX8_row_20 : decode cX8_row 20 = .ok (.bipush 60, 2) := by decide +kernel
theorem dX8_row_22 : decode cX8_row 22 = .ok (.if_icmp .le 6, 3) := by decide +kernel
theorem dX8_row_25 : decode cX8_row 25 = .ok (.bipush (-2), 2) := by decide +kernel
theorem dX8_row_27 : decode cX8_row 27 = .ok (.ireturn, 1) := by decide +kernel
theorem dX8_row_28 : decode cX8_row 28 = .ok (.iload_n 3, 1) := by decide +kernel
theorem dX8_row_29 : decode cX8_row 29 = .ok (.ifCond .ge 6, 3) := by decide +kernel
theorem dX8_row_32 : decode cX8_row 32 = .ok (.bipush (-3), 2) := by decide +kernel
theorem dX8_row_34 : decode cX8_row 34 = .ok (.ireturn, 1) := by decide +kernel
theorem dX8_row_35 : decode cX8_row 35 = .ok (.aload_n 0, 1) := by decide +kernel
theorem dX8_row_36 : decode cX8_row 36 = .ok (.getfield 76, 3) := by decide +kernel
theorem dX8_row_39 : decode cX8_row 39 = .ok (.iload_n 1, 1) := by decide +kernel
theorem dX8_row_40 : decode cX8_row 40 = .ok (.iload_n 3, 1) := by decide +kernel
theorem dX8_row_41 : decode cX8_row 41 = .ok (.iastore, 1) := by decide +kernel
theorem dX8_row_42 : decode cX8_row 42 = .ok (.aload_n 0, 1) := by decide +kernel
theorem dX8_row_43 : decode cX8_row 43 = .ok (.getfield 79, 3) := by decide +kernel
theorem dX8_row_46 : decode cX8_row 46 = .ok (.iload_n 1, 1) := by decide +kernel
theorem dX8_row_47 : decode cX8_row 47 = .ok (.iload_n 2, 1) := by decide +kernel
theorem dX8_row_48 : decode cX8_row 48 = .ok (.iastore, 1) := by decide +kernel
theorem dX8_row_49 : decode cX8_row 49 = .ok (.iconst 0, 1) := by decide +kernel
theorem dX8_row_50 : decode cX8_row 50 = .ok (.istore 4, 2) := by decide +kernel
theorem dX8_row_52 : decode cX8_row 52 = .ok (.iload 4, 2) := by decide +kernel
theorem dX8_row_54 : decode cX8_row 54 = .ok (.bipush 60, 2) := by decide +kernel
theorem dX8_row_56 : decode cX8_row 56 = .ok (.if_icmp .ge 22, 3) := by decide +kernel
theorem dX8_row_59 : decode cX8_row 59 = .ok (.aload_n 0, 1) := by decide +kernel
theorem dX8_row_60 : decode cX8_row 60 = .ok (.getfield 82, 3) := by decide +kernel
theorem dX8_row_63 : decode cX8_row 63 = .ok (.bipush 60, 2) := by decide +kernel
theorem dX8_row_65 : decode cX8_row 65 = .ok (.iload_n 1, 1) := by decide +kernel
theorem dX8_row_66 : decode cX8_row 66 = .ok (.imul, 1) := by decide +kernel
theorem dX8_row_67 : decode cX8_row 67 = .ok (.iload 4, 2) := by decide +kernel
theorem dX8_row_69 : decode cX8_row 69 = .ok (.iadd, 1) := by decide +kernel
theorem dX8_row_70 : decode cX8_row 70 = .ok (.lconst 0, 1) := by decide +kernel
theorem dX8_row_71 : decode cX8_row 71 = .ok (.lastore, 1) := by decide +kernel
theorem dX8_row_72 : decode cX8_row 72 = .ok (.iinc 4 1, 3) := by decide +kernel
theorem dX8_row_75 : decode cX8_row 75 = .ok (.goto (-23), 3) := by decide +kernel
theorem dX8_row_78 : decode cX8_row 78 = .ok (.iconst 0, 1) := by decide +kernel
theorem dX8_row_79 : decode cX8_row 79 = .ok (.ireturn, 1) := by decide +kernel
theorem dX8_write_0 : decode cX8_write 0 = .ok (.iload_n 1, 1) := by decide +kernel
theorem dX8_write_1 : decode cX8_write 1 = .ok (.invokestatic 394, 3) := by decide +kernel
theorem dX8_write_4 : decode cX8_write 4 = .ok (.ifCond .ne 6, 3) := by decide +kernel
theorem dX8_write_7 : decode cX8_write 7 = .ok (.bipush (-2), 2) := by decide +kernel
theorem dX8_write_9 : decode cX8_write 9 = .ok (.ireturn, 1) := by decide +kernel
theorem dX8_write_10 : decode cX8_write 10 = .ok (.aload_n 0, 1) := by decide +kernel
theorem dX8_write_11 : decode cX8_write 11 = .ok (.getfield 76, 3) := by decide +kernel
theorem dX8_write_14 : decode cX8_write 14 = .ok (.iload_n 1, 1) := by decide +kernel
theorem dX8_write_15 : decode cX8_write 15 = .ok (.iaload, 1) := by decide +kernel
theorem dX8_write_16 : decode cX8_write 16 = .ok (.iconst (-1), 1) := by decide +kernel
theorem dX8_write_17 : decode cX8_write 17 = .ok (.if_icmp .ne 6, 3) := by decide +kernel
theorem dX8_write_20 : decode cX8_write 20 = .ok (.bipush (-6), 2) := by decide +kernel
theorem dX8_write_22 : decode cX8_write 22 = .ok (.ireturn, 1) := by decide +kernel
theorem dX8_write_23 : decode cX8_write 23 = .ok (.iload_n 2, 1) := by decide +kernel
theorem dX8_write_24 : decode cX8_write 24 = .ok (.i2l, 1) := by decide +kernel
theorem dX8_write_25 : decode cX8_write 25 = .ok (.lconst 0, 1) := by decide +kernel
theorem dX8_write_26 : decode cX8_write 26 = .ok (.aload_n 0, 1) := by decide +kernel
theorem dX8_write_27 : decode cX8_write 27 = .ok (.getfield 76, 3) := by decide +kernel
theorem dX8_write_30 : decode cX8_write 30 = .ok (.iload_n 1, 1) := by decide +kernel
theorem dX8_write_31 : decode cX8_write 31 = .ok (.iaload, 1) := by decide +kernel
theorem dX8_write_32 : decode cX8_write 32 = .ok (.iconst 1, 1) := by decide +kernel
theorem dX8_write_33 : decode cX8_write 33 = .ok (.isub, 1) := by decide +kernel
theorem dX8_write_34 : decode cX8_write 34 = .ok (.i2l, 1) := by decide +kernel
theorem dX8_write_35 : decode cX8_write 35 = .ok (.invokestatic 94, 3) := by decide +kernel
theorem dX8_write_38 : decode cX8_write 38 = .ok (.ifCond .ne 6, 3) := by decide +kernel
theorem dX8_write_41 : decode cX8_write 41 = .ok (.bipush (-7), 2) := by decide +kernel
theorem dX8_write_43 : decode cX8_write 43 = .ok (.ireturn, 1) := by decide +kernel
theorem dX8_write_44 : decode cX8_write 44 = .ok (.aload_n 0, 1) := by decide +kernel
theorem dX8_write_45 : decode cX8_write 45 = .ok (.getfield 82, 3) := by decide +kernel
theorem dX8_write_48 : decode cX8_write 48 = .ok (.bipush 60, 2) := by decide +kernel
theorem dX8_write_50 : decode cX8_write 50 = .ok (.iload_n 1, 1) := by decide +kernel
theorem dX8_write_51 : decode cX8_write 51 = .ok (.imul, 1) := by decide +kernel
theorem dX8_write_52 : decode cX8_write 52 = .ok (.iload_n 2, 1) := by decide +kernel
theorem dX8_write_53 : decode cX8_write 53 = .ok (.iadd, 1) := by decide +kernel
theorem dX8_write_54 : decode cX8_write 54 = .ok (.lload_n 3, 1) := by decide +kernel
theorem dX8_write_55 : decode cX8_write 55 = .ok (.aload_n 0, 1) := by decide +kernel
theorem dX8_write_56 : decode cX8_write 56 = .ok (.getfield 79, 3) := by decide +kernel
theorem dX8_write_59 : decode cX8_write 59 = .ok (.iload_n 1, 1) := by decide +kernel
theorem dX8_write_60 : decode cX8_write 60 = .ok (.iaload, 1) := by decide +kernel
theorem dX8_write_61 : decode cX8_write 61 = .ok (.invokestatic 498, 3) := by decide +kernel
theorem dX8_write_64 : decode cX8_write 64 = .ok (.lastore, 1) := by decide +kernel
theorem dX8_write_65 : decode cX8_write 65 = .ok (.iconst 0, 1) := by decide +kernel
theorem dX8_write_66 : decode cX8_write 66 = .ok (.ireturn, 1) := by decide +kernel
theorem dX8_paste_0 : decode cX8_paste 0 = .ok (.iload_n 1, 1) := by decide +kernel
theorem dX8_paste_1 : decode cX8_paste 1 = .ok (.invokestatic 394, 3) := by decide +kernel
theorem dX8_paste_4 : decode cX8_paste 4 = .ok (.ifCond .eq 10, 3) := by decide +kernel
theorem dX8_paste_7 : decode cX8_paste 7 = .ok (.iload_n 3, 1) := by decide +kernel
theorem dX8_paste_8 : decode cX8_paste 8 = .ok (.invokestatic 394, 3) := by decide +kernel
theorem dX8_paste_11 : decode cX8_paste 11 = .ok (.ifCond .ne 6, 3) := by decide +kernel
theorem dX8_paste_14 : decode cX8_paste 14 = .ok (.bipush (-2), 2) := by decide +kernel
theorem dX8_paste_16 : decode cX8_paste 16 = .ok (.ireturn, 1) := by decide +kernel
theorem dX8_paste_17 : decode cX8_paste 17 = .ok (.aload_n 0, 1) := by decide +kernel
theorem dX8_paste_18 : decode cX8_paste 18 = .ok (.getfield 76, 3) := by decide +kernel
theorem dX8_paste_21 : decode cX8_paste 21 = .ok (.iload_n 1, 1) := by decide +kernel
theorem dX8_paste_22 : decode cX8_paste 22 = .ok (.iaload, 1) := by decide +kernel
theorem dX8_paste_23 : decode cX8_paste 23 = .ok (.iconst (-1), 1) := by decide +kernel
theorem dX8_paste_24 : decode cX8_paste 24 = .ok (.if_icmp .eq 13, 3) := by decide +kernel
theorem dX8_paste_27 : decode cX8_paste 27 = .ok (.aload_n 0, 1) := by decide +kernel
theorem dX8_paste_28 : decode cX8_paste 28 = .ok (.getfield 76, 3) := by decide +kernel
theorem dX8_paste_31 : decode cX8_paste 31 = .ok (.iload_n 3, 1) := by decide +kernel
theorem dX8_paste_32 : decode cX8_paste 32 = .ok (.iaload, 1) := by decide +kernel
theorem dX8_paste_33 : decode cX8_paste 33 = .ok (.iconst (-1), 1) := by decide +kernel
theorem dX8_paste_34 : decode cX8_paste 34 = .ok (.if_icmp .ne 6, 3) := by decide +kernel
theorem dX8_paste_37 : decode cX8_paste 37 = .ok (.bipush (-6), 2) := by decide +kernel
theorem dX8_paste_39 : decode cX8_paste 39 = .ok (.ireturn, 1) := by decide +kernel
theorem dX8_paste_40 : decode cX8_paste 40 = .ok (.aload_n 0, 1) := by decide +kernel
theorem dX8_paste_41 : decode cX8_paste 41 = .ok (.getfield 79, 3) := by decide +kernel
theorem dX8_paste_44 : decode cX8_paste 44 = .ok (.iload_n 1, 1) := by decide +kernel
theorem dX8_paste_45 : decode cX8_paste 45 = .ok (.iaload, 1) := by decide +kernel
theorem dX8_paste_46 : decode cX8_paste 46 = .ok (.aload_n 0, 1) := by decide +kernel
theorem dX8_paste_47 : decode cX8_paste 47 = .ok (.getfield 79, 3) := by decide +kernel
theorem dX8_paste_50 : decode cX8_paste 50 = .ok (.iload_n 3, 1) := by decide +kernel
theorem dX8_paste_51 : decode cX8_paste 51 = .ok (.iaload, 1) := by decide +kernel
theorem dX8_paste_52 : decode cX8_paste 52 = .ok (.if_icmp .eq 6, 3) := by decide +kernel
theorem dX8_paste_55 : decode cX8_paste 55 = .ok (.bipush (-8), 2) := by decide +kernel
theorem dX8_paste_57 : decode cX8_paste 57 = .ok (.ireturn, 1) := by decide +kernel
theorem dX8_paste_58 : decode cX8_paste 58 = .ok (.iload_n 2, 1) := by decide +kernel
theorem dX8_paste_59 : decode cX8_paste 59 = .ok (.ifCond .lt 48, 3) := by decide +kernel
theorem dX8_paste_62 : decode cX8_paste 62 = .ok (.iload 4, 2) := by decide +kernel
theorem dX8_paste_64 : decode cX8_paste 64 = .ok (.ifCond .lt 43, 3) := by decide +kernel
theorem dX8_paste_67 : decode cX8_paste 67 = .ok (.iload 5, 2) := by decide +kernel
theorem dX8_paste_69 : decode cX8_paste 69 = .ok (.ifCond .lt 38, 3) := by decide +kernel
theorem dX8_paste_72 : decode cX8_paste 72 = .ok (.iload_n 2, 1) := by decide +kernel
theorem dX8_paste_73 : decode cX8_paste 73 = .ok (.i2l, 1) := by decide +kernel
theorem dX8_paste_74 : decode cX8_paste 74 = .ok (.iload 5, 2) := by decide +kernel
theorem dX8_paste_76 : decode cX8_paste 76 = .ok (.i2l, 1) := by decide +kernel
theorem dX8_paste_77 : decode cX8_paste 77 = .ok (.ladd, 1) := by decide +kernel
theorem dX8_paste_78 : decode cX8_paste 78 = .ok (.aload_n 0, 1) := by decide +kernel
theorem dX8_paste_79 : decode cX8_paste 79 = .ok (.getfield 76, 3) := by decide +kernel
theorem dX8_paste_82 : decode cX8_paste 82 = .ok (.iload_n 1, 1) := by decide +kernel
theorem dX8_paste_83 : decode cX8_paste 83 = .ok (.iaload, 1) := by decide +kernel
theorem dX8_paste_84 : decode cX8_paste 84 = .ok (.i2l, 1) := by decide +kernel
theorem dX8_paste_85 : decode cX8_paste 85 = .ok (.lcmp, 1) := by decide +kernel
theorem dX8_paste_86 : decode cX8_paste 86 = .ok (.ifCond .gt 21, 3) := by decide +kernel
theorem dX8_paste_89 : decode cX8_paste 89 = .ok (.iload 4, 2) := by decide +kernel
theorem dX8_paste_91 : decode cX8_paste 91 = .ok (.i2l, 1) := by decide +kernel
theorem dX8_paste_92 : decode cX8_paste 92 = .ok (.iload 5, 2) := by decide +kernel
theorem dX8_paste_94 : decode cX8_paste 94 = .ok (.i2l, 1) := by decide +kernel
theorem dX8_paste_95 : decode cX8_paste 95 = .ok (.ladd, 1) := by decide +kernel
theorem dX8_paste_96 : decode cX8_paste 96 = .ok (.aload_n 0, 1) := by decide +kernel
theorem dX8_paste_97 : decode cX8_paste 97 = .ok (.getfield 76, 3) := by decide +kernel
theorem dX8_paste_100 : decode cX8_paste 100 = .ok (.iload_n 3, 1) := by decide +kernel
theorem dX8_paste_101 : decode cX8_paste 101 = .ok (.iaload, 1) := by decide +kernel
theorem dX8_paste_102 : decode cX8_paste 102 = .ok (.i2l, 1) := by decide +kernel
theorem dX8_paste_103 : decode cX8_paste 103 = .ok (.lcmp, 1) := by decide +kernel
theorem dX8_paste_104 : decode cX8_paste 104 = .ok (.ifCond .le 6, 3) := by decide +kernel
theorem dX8_paste_107 : decode cX8_paste 107 = .ok (.bipush (-7), 2) := by decide +kernel
theorem dX8_paste_109 : decode cX8_paste 109 = .ok (.ireturn, 1) := by decide +kernel
theorem dX8_paste_110 : decode cX8_paste 110 = .ok (.iconst 0, 1) := by decide +kernel
theorem dX8_paste_111 : decode cX8_paste 111 = .ok (.istore 6, 2) := by decide +kernel
theorem dX8_paste_113 : decode cX8_paste 113 = .ok (.iload 6, 2) := by decide +kernel
theorem dX8_paste_115 : decode cX8_paste 115 = .ok (.iload 5, 2) := by decide +kernel
theorem dX8_paste_117 : decode cX8_paste 117 = .ok (.if_icmp .ge 30, 3) := by decide +kernel
theorem dX8_paste_120 : decode cX8_paste 120 = .ok (.aload_n 0, 1) := by decide +kernel
theorem dX8_paste_121 : decode cX8_paste 121 = .ok (.getfield 86, 3) := by decide +kernel
theorem dX8_paste_124 : decode cX8_paste 124 = .ok (.iload 6, 2) := by decide +kernel
theorem dX8_paste_126 : decode cX8_paste 126 = .ok (.aload_n 0, 1) := by decide +kernel
theorem dX8_paste_127 : decode cX8_paste 127 = .ok (.getfield 82, 3) := by decide +kernel
theorem dX8_paste_130 : decode cX8_paste 130 = .ok (.bipush 60, 2) := by decide +kernel
theorem dX8_paste_132 : decode cX8_paste 132 = .ok (.iload_n 1, 1) := by decide +kernel
theorem dX8_paste_133 : decode cX8_paste 133 = .ok (.imul, 1) := by decide +kernel
theorem dX8_paste_134 : decode cX8_paste 134 = .ok (.iload_n 2, 1) := by decide +kernel
theorem dX8_paste_135 : decode cX8_paste 135 = .ok (.iadd, 1) := by decide +kernel
theorem dX8_paste_136 : decode cX8_paste 136 = .ok (.iload 6, 2) := by decide +kernel
theorem dX8_paste_138 : decode cX8_paste 138 = .ok (.iadd, 1) := by decide +kernel
theorem dX8_paste_139 : decode cX8_paste 139 = .ok (.laload, 1) := by decide +kernel
theorem dX8_paste_140 : decode cX8_paste 140 = .ok (.lastore, 1) := by decide +kernel
theorem dX8_paste_141 : decode cX8_paste 141 = .ok (.iinc 6 1, 3) := by decide +kernel
theorem dX8_paste_144 : decode cX8_paste 144 = .ok (.goto (-31), 3) := by decide +kernel
theorem dX8_paste_147 : decode cX8_paste 147 = .ok (.iconst 0, 1) := by decide +kernel
theorem dX8_paste_148 : decode cX8_paste 148 = .ok (.istore 6, 2) := by decide +kernel
theorem dX8_paste_150 : decode cX8_paste 150 = .ok (.iload 6, 2) := by decide +kernel
theorem dX8_paste_152 : decode cX8_paste 152 = .ok (.iload 5, 2) := by decide +kernel
theorem dX8_paste_154 : decode cX8_paste 154 = .ok (.if_icmp .ge 31, 3) := by decide +kernel
theorem dX8_paste_157 : decode cX8_paste 157 = .ok (.aload_n 0, 1) := by decide +kernel
theorem dX8_paste_158 : decode cX8_paste 158 = .ok (.getfield 82, 3) := by decide +kernel
theorem dX8_paste_161 : decode cX8_paste 161 = .ok (.bipush 60, 2) := by decide +kernel
theorem dX8_paste_163 : decode cX8_paste 163 = .ok (.iload_n 3, 1) := by decide +kernel
theorem dX8_paste_164 : decode cX8_paste 164 = .ok (.imul, 1) := by decide +kernel
theorem dX8_paste_165 : decode cX8_paste 165 = .ok (.iload 4, 2) := by decide +kernel
theorem dX8_paste_167 : decode cX8_paste 167 = .ok (.iadd, 1) := by decide +kernel
theorem dX8_paste_168 : decode cX8_paste 168 = .ok (.iload 6, 2) := by decide +kernel
theorem dX8_paste_170 : decode cX8_paste 170 = .ok (.iadd, 1) := by decide +kernel
theorem dX8_paste_171 : decode cX8_paste 171 = .ok (.aload_n 0, 1) := by decide +kernel
theorem dX8_paste_172 : decode cX8_paste 172 = .ok (.getfield 86, 3) := by decide +kernel
theorem dX8_paste_175 : decode cX8_paste 175 = .ok (.iload 6, 2) := by decide +kernel
theorem dX8_paste_177 : decode cX8_paste 177 = .ok (.laload, 1) := by decide +kernel
theorem dX8_paste_178 : decode cX8_paste 178 = .ok (.lastore, 1) := by decide +kernel
theorem dX8_paste_179 : decode cX8_paste 179 = .ok (.iinc 6 1, 3) := by decide +kernel
theorem dX8_paste_182 : decode cX8_paste 182 = .ok (.goto (-32), 3) := by decide +kernel
theorem dX8_paste_185 : decode cX8_paste 185 = .ok (.iconst 0, 1) := by decide +kernel
theorem dX8_paste_186 : decode cX8_paste 186 = .ok (.ireturn, 1) := by decide +kernel
theorem wd1040 : Cond.methodLink RX8 242 yX8_readLine ∈ tblG := gw6 205 (by decide +kernel) (by decide +kernel)
theorem wd1041 : Cond.instanceMethod yX8_readLine ∈ tblG := gw6 207 (by decide +kernel) (by decide +kernel)
theorem wd1042 : Cond.selects RX8 yX8_readLine yX8_readLine ∈ tblG := gw0 50 (by decide +kernel) (by decide +kernel)
theorem wd1043 : Cond.code yX8_readLine cX8_readLine 1 none ∈ tblG := gw6 208 (by decide +kernel) (by decide +kernel)
theorem pl_X8_readLine : Plain yX8_readLine 0 := ⟨by decide, by decide, by decide +kernel⟩
theorem lk_X8_242 : LkV RX8 242 8 yX8_readLine cX8_readLine 1 none 0 := ⟨⟨TX8, 41, rfl⟩, wd1040, wd1041, wd1042, wd649, wd1043, pl_X8_readLine⟩
theorem wd1044 : Cond.constantLong RX8 92 (2) ∈ tblG := gw6 163 (by decide +kernel) (by decide +kernel)
theorem wd1045 : Cond.fieldLink RX8 16 RX8 "hasImage" "[Z" ∈ tblG := gw6 37 (by decide +kernel) (by decide +kernel)
theorem fk_X8_16 : FLk RX8 16 8 3 (.array .boolean) true := ⟨RX8, TX8, 41, tyX8, clX8, by decide, rfl, rfl, rfl, Or.inl wd1045⟩
theorem wd1046 : Cond.fieldLink RX8 13 RX8 "images" "[I" ∈ tblG := gw6 36 (by decide +kernel) (by decide +kernel)
theorem fk_X8_13 : FLk RX8 13 8 2 (.array .int) true := ⟨RX8, TX8, 41, tyX8, clX8, by decide, rfl, rfl, rfl, Or.inl wd1046⟩
theorem wd1047 : Cond.fieldLink RX8 79 RX8 "width" "[I" ∈ tblG := gw6 72 (by decide +kernel) (by decide +kernel)
theorem fk_X8_79 : FLk RX8 79 8 38 (.array .int) true := ⟨RX8, TX8, 41, tyX8, clX8, by decide, rfl, rfl, rfl, Or.inl wd1047⟩
theorem wd1048 : Cond.methodLink RX8 498 yX8_clipped ∈ tblG := gw9 111 (by decide +kernel) (by decide +kernel)
theorem wd1049 : Cond.static yX8_clipped ∈ tblG := gw9 112 (by decide +kernel) (by decide +kernel)
theorem wd1050 : Cond.code yX8_clipped cX8_clipped 4 (some .long) ∈ tblG := gw9 113 (by decide +kernel) (by decide +kernel)
theorem pl_X8_clipped : Plain yX8_clipped 2 := ⟨by decide, by decide, by decide +kernel⟩
theorem lk_X8_498 : LkS RX8 498 yX8_clipped cX8_clipped 4 (some .long) 2 := ⟨wd1048, wd1049, wd649, wd1050, pl_X8_clipped⟩
theorem wd1051 : Cond.fieldLink RX8 86 RX8 "moving" "[J" ∈ tblG := gw6 74 (by decide +kernel) (by decide +kernel)
theorem fk_X8_86 : FLk RX8 86 8 40 (.array .long) true := ⟨RX8, TX8, 41, tyX8, clX8, by decide, rfl, rfl, rfl, Or.inl wd1051⟩
