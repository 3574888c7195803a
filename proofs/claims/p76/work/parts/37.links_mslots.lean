theorem dX8_numberAt_0 : decode cX8_numberAt 0 = .ok (.aload_n 0, 1) := by decide +kernel
theorem dX8_numberAt_1 : decode cX8_numberAt 1 = .ok (.getfield 82, 3) := by decide +kernel
theorem dX8_numberAt_4 : decode cX8_numberAt 4 = .ok (.bipush 60, 2) := by decide +kernel
theorem dX8_numberAt_6 : decode cX8_numberAt 6 = .ok (.iload_n 1, 1) := by decide +kernel
theorem dX8_numberAt_7 : decode cX8_numberAt 7 = .ok (.imul, 1) := by decide +kernel
theorem dX8_numberAt_8 : decode cX8_numberAt 8 = .ok (.iload_n 2, 1) := by decide +kernel
theorem dX8_numberAt_9 : decode cX8_numberAt 9 = .ok (.iadd, 1) := by decide +kernel
theorem dX8_numberAt_10 : decode cX8_numberAt 10 = .ok (.laload, 1) := by decide +kernel
theorem dX8_numberAt_11 : decode cX8_numberAt 11 = .ok (.lreturn, 1) := by decide +kernel
theorem dX8_askSeen_0 : decode cX8_askSeen 0 = .ok (.iload_n 1, 1) := by decide +kernel
theorem dX8_askSeen_1 : decode cX8_askSeen 1 = .ok (.invokestatic 394, 3) := by decide +kernel
theorem dX8_askSeen_4 : decode cX8_askSeen 4 = .ok (.ifCond .eq 10, 3) := by decide +kernel
theorem dX8_askSeen_7 : decode cX8_askSeen 7 = .ok (.aload_n 0, 1) := by decide +kernel
theorem dX8_askSeen_8 : decode cX8_askSeen 8 = .ok (.invokevirtual 102, 3) := by decide +kernel
theorem dX8_askSeen_11 : decode cX8_askSeen 11 = .ok (.ifCond .ne 6, 3) := by decide +kernel
theorem dX8_askSeen_14 : decode cX8_askSeen 14 = .ok (.bipush (-2), 2) := by decide +kernel
theorem dX8_askSeen_16 : decode cX8_askSeen 16 = .ok (.ireturn, 1) := by decide +kernel
theorem dX8_askSeen_17 : decode cX8_askSeen 17 = .ok (.aload_n 0, 1) := by decide +kernel
theorem dX8_askSeen_18 : decode cX8_askSeen 18 = .ok (.getfield 76, 3) := by decide +kernel
theorem dX8_askSeen_21 : decode cX8_askSeen 21 = .ok (.iload_n 1, 1) := by decide +kernel
theorem dX8_askSeen_22 : decode cX8_askSeen 22 = .ok (.iaload, 1) := by decide +kernel
theorem dX8_askSeen_23 : decode cX8_askSeen 23 = .ok (.iconst (-1), 1) := by decide +kernel
theorem dX8_askSeen_24 : decode cX8_askSeen 24 = .ok (.if_icmp .ne 6, 3) := by decide +kernel
theorem dX8_askSeen_27 : decode cX8_askSeen 27 = .ok (.bipush (-6), 2) := by decide +kernel
theorem dX8_askSeen_29 : decode cX8_askSeen 29 = .ok (.ireturn, 1) := by decide +kernel
theorem dX8_askSeen_30 : decode cX8_askSeen 30 = .ok (.aload_n 0, 1) := by decide +kernel
theorem dX8_askSeen_31 : decode cX8_askSeen 31 = .ok (.getfield 76, 3) := by decide +kernel
theorem dX8_askSeen_34 : decode cX8_askSeen 34 = .ok (.iload_n 1, 1) := by decide +kernel
theorem dX8_askSeen_35 : decode cX8_askSeen 35 = .ok (.iaload, 1) := by decide +kernel
theorem dX8_askSeen_36 : decode cX8_askSeen 36 = .ok (.iconst 3, 1) := by decide +kernel
theorem dX8_askSeen_37 : decode cX8_askSeen 37 = .ok (.irem, 1) := by decide +kernel
theorem dX8_askSeen_38 : decode cX8_askSeen 38 = .ok (.ifCond .eq 6, 3) := by decide +kernel
theorem dX8_askSeen_41 : decode cX8_askSeen 41 = .ok (.bipush (-2), 2) := by decide +kernel
theorem dX8_askSeen_43 : decode cX8_askSeen 43 = .ok (.ireturn, 1) := by decide +kernel
theorem dX8_askSeen_44 : decode cX8_askSeen 44 = .ok (.iconst 0, 1) := by decide +kernel
theorem dX8_askSeen_45 : decode cX8_askSeen 45 = .ok (.istore_n 2, 1) := by decide +kernel
theorem dX8_askSeen_46 : decode cX8_askSeen 46 = .ok (.iload_n 2, 1) := by decide +kernel
theorem dX8_askSeen_47 : decode cX8_askSeen 47 = .ok (.aload_n 0, 1) := by decide +kernel
theorem dX8_askSeen_48 : decode cX8_askSeen 48 = .ok (.getfield 76, 3) := by decide +kernel
theorem dX8_askSeen_51 : decode cX8_askSeen 51 = .ok (.iload_n 1, 1) := by decide +kernel
theorem dX8_askSeen_52 : decode cX8_askSeen 52 = .ok (.iaload, 1) := by decide +kernel
theorem dX8_askSeen_53 : decode cX8_askSeen 53 = .ok (.if_icmp .ge 70, 3) := by decide +kernel
theorem dX8_askSeen_56 : decode cX8_askSeen 56 = .ok (.aload_n 0, 1) := by decide +kernel
theorem dX8_askSeen_57 : decode cX8_askSeen 57 = .ok (.aload_n 0, 1) := by decide +kernel
theorem dX8_askSeen_58 : decode cX8_askSeen 58 = .ok (.iload_n 1, 1) := by decide +kernel
theorem dX8_askSeen_59 : decode cX8_askSeen 59 = .ok (.iload_n 2, 1) := by decide +kernel
theorem dX8_askSeen_60 : decode cX8_askSeen 60 = .ok (.invokevirtual 397, 3) := by decide +kernel
theorem dX8_askSeen_63 : decode cX8_askSeen 63 = .ok (.invokevirtual 254, 3) := by decide +kernel
theorem dX8_askSeen_66 : decode cX8_askSeen 66 = .ok (.ifCond .eq 48, 3) := by decide +kernel
theorem dX8_askSeen_69 : decode cX8_askSeen 69 = .ok (.aload_n 0, 1) := by decide +kernel
theorem dX8_askSeen_70 : decode cX8_askSeen 70 = .ok (.aload_n 0, 1) := by decide +kernel
theorem dX8_askSeen_71 : decode cX8_askSeen 71 = .ok (.iload_n 1, 1) := by decide +kernel
theorem dX8_askSeen_72 : decode cX8_askSeen 72 = .ok (.iload_n 2, 1) := by decide +kernel
theorem dX8_askSeen_73 : decode cX8_askSeen 73 = .ok (.iconst 1, 1) := by decide +kernel
theorem dX8_askSeen_74 : decode cX8_askSeen 74 = .ok (.iadd, 1) := by decide +kernel
theorem dX8_askSeen_75 : decode cX8_askSeen 75 = .ok (.invokevirtual 397, 3) := by decide +kernel
theorem dX8_askSeen_78 : decode cX8_askSeen 78 = .ok (.invokevirtual 295, 3) := by decide +kernel
theorem dX8_askSeen_81 : decode cX8_askSeen 81 = .ok (.ifCond .eq 33, 3) := by decide +kernel
theorem dX8_askSeen_84 : decode cX8_askSeen 84 = .ok (.aload_n 0, 1) := by decide +kernel
theorem dX8_askSeen_85 : decode cX8_askSeen 85 = .ok (.iload_n 1, 1) := by decide +kernel
theorem dX8_askSeen_86 : decode cX8_askSeen 86 = .ok (.iload_n 2, 1) := by decide +kernel
theorem dX8_askSeen_87 : decode cX8_askSeen 87 = .ok (.iconst 2, 1) := by decide +kernel
theorem dX8_askSeen_88 : decode cX8_askSeen 88 = .ok (.iadd, 1) := by decide +kernel
theorem dX8_askSeen_89 : decode cX8_askSeen 89 = .ok (.invokevirtual 397, 3) := by decide +kernel
theorem dX8_askSeen_92 : decode cX8_askSeen 92 = .ok (.ldc2_w 401, 3) := by decide +kernel
theorem dX8_askSeen_95 : decode cX8_askSeen 95 = .ok (.lcmp, 1) := by decide +kernel
theorem dX8_askSeen_96 : decode cX8_askSeen 96 = .ok (.ifCond .eq 21, 3) := by decide +kernel
theorem dX8_askSeen_99 : decode cX8_askSeen 99 = .ok (.aload_n 0, 1) := by decide +kernel
theorem dX8_askSeen_100 : decode cX8_askSeen 100 = .ok (.aload_n 0, 1) := by decide +kernel
theorem dX8_askSeen_101 : decode cX8_askSeen 101 = .ok (.iload_n 1, 1) := by decide +kernel
theorem dX8_askSeen_102 : decode cX8_askSeen 102 = .ok (.iload_n 2, 1) := by decide +kernel
theorem dX8_askSeen_103 : decode cX8_askSeen 103 = .ok (.iconst 2, 1) := by decide +kernel
theorem dX8_askSeen_104 : decode cX8_askSeen 104 = .ok (.iadd, 1) := by decide +kernel
theorem dX8_askSeen_105 : decode cX8_askSeen 105 = .ok (.invokevirtual 397, 3) := by decide +kernel
theorem dX8_askSeen_108 : decode cX8_askSeen 108 = .ok (.invokevirtual 305, 3) := by decide +kernel
theorem dX8_askSeen_111 : decode cX8_askSeen 111 = .ok (.ifCond .ne 6, 3) := by decide +kernel
theorem dX8_askSeen_114 : decode cX8_askSeen 114 = .ok (.bipush (-2), 2) := by decide +kernel
theorem dX8_askSeen_116 : decode cX8_askSeen 116 = .ok (.ireturn, 1) := by decide +kernel
theorem dX8_askSeen_117 : decode cX8_askSeen 117 = .ok (.iinc 2 3, 3) := by decide +kernel
theorem dX8_askSeen_120 : decode cX8_askSeen 120 = .ok (.goto (-74), 3) := by decide +kernel
theorem dX8_askSeen_123 : decode cX8_askSeen 123 = .ok (.aload_n 0, 1) := by decide +kernel
theorem dX8_askSeen_124 : decode cX8_askSeen 124 = .ok (.invokevirtual 286, 3) := by decide +kernel
theorem dX8_askSeen_127 : decode cX8_askSeen 127 = .ok (.iconst 0, 1) := by decide +kernel
theorem dX8_askSeen_128 : decode cX8_askSeen 128 = .ok (.ireturn, 1) := by decide +kernel
theorem dX8_isSeen_0 : decode cX8_isSeen 0 = .ok (.aload_n 0, 1) := by decide +kernel
theorem dX8_isSeen_1 : decode cX8_isSeen 1 = .ok (.invokevirtual 289, 3) := by decide +kernel
theorem dX8_isSeen_4 : decode cX8_isSeen 4 = .ok (.iconst 0, 1) := by decide +kernel
theorem dX8_isSeen_5 : decode cX8_isSeen 5 = .ok (.istore_n 2, 1) := by decide +kernel
theorem dX8_isSeen_6 : decode cX8_isSeen 6 = .ok (.iload_n 2, 1) := by decide +kernel
theorem dX8_isSeen_7 : decode cX8_isSeen 7 = .ok (.aload_n 0, 1) := by decide +kernel
theorem dX8_isSeen_8 : decode cX8_isSeen 8 = .ok (.getfield 76, 3) := by decide +kernel
theorem dX8_isSeen_11 : decode cX8_isSeen 11 = .ok (.iload_n 1, 1) := by decide +kernel
theorem dX8_isSeen_12 : decode cX8_isSeen 12 = .ok (.iaload, 1) := by decide +kernel
theorem dX8_isSeen_13 : decode cX8_isSeen 13 = .ok (.if_icmp .ge 44, 3) := by decide +kernel
theorem dX8_isSeen_16 : decode cX8_isSeen 16 = .ok (.aload_n 0, 1) := by decide +kernel
theorem dX8_isSeen_17 : decode cX8_isSeen 17 = .ok (.aload_n 0, 1) := by decide +kernel
theorem dX8_isSeen_18 : decode cX8_isSeen 18 = .ok (.iload_n 1, 1) := by decide +kernel
theorem dX8_isSeen_19 : decode cX8_isSeen 19 = .ok (.iload_n 2, 1) := by decide +kernel
theorem dX8_isSeen_20 : decode cX8_isSeen 20 = .ok (.invokevirtual 397, 3) := by decide +kernel
theorem dX8_isSeen_23 : decode cX8_isSeen 23 = .ok (.l2i, 1) := by decide +kernel
theorem dX8_isSeen_24 : decode cX8_isSeen 24 = .ok (.aload_n 0, 1) := by decide +kernel
theorem dX8_isSeen_25 : decode cX8_isSeen 25 = .ok (.iload_n 1, 1) := by decide +kernel
theorem dX8_isSeen_26 : decode cX8_isSeen 26 = .ok (.iload_n 2, 1) := by decide +kernel
theorem dX8_isSeen_27 : decode cX8_isSeen 27 = .ok (.iconst 1, 1) := by decide +kernel
theorem dX8_isSeen_28 : decode cX8_isSeen 28 = .ok (.iadd, 1) := by decide +kernel
theorem dX8_isSeen_29 : decode cX8_isSeen 29 = .ok (.invokevirtual 397, 3) := by decide +kernel
theorem dX8_isSeen_32 : decode cX8_isSeen 32 = .ok (.l2i, 1) := by decide +kernel
theorem dX8_isSeen_33 : decode cX8_isSeen 33 = .ok (.invokevirtual 298, 3) := by decide +kernel
theorem dX8_isSeen_36 : decode cX8_isSeen 36 = .ok (.i2l, 1) := by decide +kernel
theorem dX8_isSeen_37 : decode cX8_isSeen 37 = .ok (.aload_n 0, 1) := by decide +kernel
theorem dX8_isSeen_38 : decode cX8_isSeen 38 = .ok (.iload_n 1, 1) := by decide +kernel
theorem dX8_isSeen_39 : decode cX8_isSeen 39 = .ok (.iload_n 2, 1) := by decide +kernel
theorem dX8_isSeen_40 : decode cX8_isSeen 40 = .ok (.iconst 2, 1) := by decide +kernel
theorem dX8_isSeen_41 : decode cX8_isSeen 41 = .ok (.iadd, 1) := by decide +kernel
theorem dX8_isSeen_42 : decode cX8_isSeen 42 = .ok (.invokevirtual 397, 3) := by decide +kernel
theorem dX8_isSeen_45 : decode cX8_isSeen 45 = .ok (.lcmp, 1) := by decide +kernel
theorem dX8_isSeen_46 : decode cX8_isSeen 46 = .ok (.ifCond .eq 5, 3) := by decide +kernel
theorem dX8_isSeen_49 : decode cX8_isSeen 49 = .ok (.iconst 0, 1) := by decide +kernel
theorem dX8_isSeen_50 : decode cX8_isSeen 50 = .ok (.ireturn, 1) := by decide +kernel
theorem dX8_isSeen_51 : decode cX8_isSeen 51 = .ok (.iinc 2 3, 3) := by decide +kernel
theorem dX8_isSeen_54 : decode cX8_isSeen 54 = .ok (.goto (-48), 3) := by decide +kernel
theorem dX8_isSeen_57 : decode cX8_isSeen 57 = .ok (.iconst 1, 1) := by decide +kernel
theorem dX8_isSeen_58 : decode cX8_isSeen 58 = .ok (.ireturn, 1) := by decide +kernel
theorem dX8_cellOf_0 : decode cX8_cellOf 0 = .ok (.iload_n 0, 1) := by decide +kernel
theorem dX8_cellOf_1 : decode cX8_cellOf 1 = .ok (.bipush 17, 2) := by decide +kernel
theorem dX8_cellOf_3 : decode cX8_cellOf 3 = .ok (.imul, 1) := by decide +kernel
theorem dX8_cellOf_4 : decode cX8_cellOf 4 = .ok (.iload_n 2, 1) := by decide +kernel
theorem dX8_cellOf_5 : decode cX8_cellOf 5 = .ok (.iadd, 1) := by decide +kernel
theorem dX8_cellOf_6 : decode cX8_cellOf 6 = .ok (.bipush 8, 2) := by decide +kernel
theorem dX8_cellOf_8 : decode cX8_cellOf 8 = .ok (.imul, 1) := by decide +kernel
theorem dX8_cellOf_9 : decode cX8_cellOf 9 = .ok (.iload_n 1, 1) := by decide +kernel
theorem dX8_cellOf_10 : decode cX8_cellOf 10 = .ok (.iadd, 1) := by decide +kernel
theorem dX8_cellOf_11 : decode cX8_cellOf 11 = .ok (.ireturn, 1) := by decide +kernel
theorem dX8_mayOf_0 : decode cX8_mayOf 0 = .ok (.iconst 0, 1) := by decide +kernel
theorem dX8_mayOf_1 : decode cX8_mayOf 1 = .ok (.istore_n 3, 1) := by decide +kernel
theorem dX8_mayOf_2 : decode cX8_mayOf 2 = .ok (.iconst 0, 1) := by decide +kernel
theorem dX8_mayOf_3 : decode cX8_mayOf 3 = .ok (.istore 4, 2) := by decide +kernel
theorem dX8_mayOf_5 : decode cX8_mayOf 5 = .ok (.iload 4, 2) := by decide +kernel
theorem dX8_mayOf_7 : decode cX8_mayOf 7 = .ok (.aload_n 0, 1) := by decide +kernel
theorem dX8_mayOf_8 : decode cX8_mayOf 8 = .ok (.iload_n 2, 1) := by decide +kernel
theorem dX8_mayOf_9 : decode cX8_mayOf 9 = .ok (.invokevirtual 245, 3) := by decide +kernel
theorem dX8_mayOf_12 : decode cX8_mayOf 12 = .ok (.if_icmp .ge 94, 3) := by decide +kernel
theorem dX8_mayOf_15 : decode cX8_mayOf 15 = .ok (.aload_n 0, 1) := by decide +kernel
theorem dX8_mayOf_16 : decode cX8_mayOf 16 = .ok (.getfield 34, 3) := by decide +kernel
theorem dX8_mayOf_19 : decode cX8_mayOf 19 = .ok (.iload_n 2, 1) := by decide +kernel
theorem dX8_mayOf_20 : decode cX8_mayOf 20 = .ok (.iload 4, 2) := by decide +kernel
theorem dX8_mayOf_22 : decode cX8_mayOf 22 = .ok (.iastore, 1) := by decide +kernel
theorem dX8_mayOf_23 : decode cX8_mayOf 23 = .ok (.iload_n 3, 1) := by decide +kernel
theorem dX8_mayOf_24 : decode cX8_mayOf 24 = .ok (.aload_n 0, 1) := by decide +kernel
theorem dX8_mayOf_25 : decode cX8_mayOf 25 = .ok (.iload_n 1, 1) := by decide +kernel
theorem dX8_mayOf_26 : decode cX8_mayOf 26 = .ok (.invokevirtual 403, 3) := by decide +kernel
theorem dX8_mayOf_29 : decode cX8_mayOf 29 = .ok (.ifCond .eq 10, 3) := by decide +kernel
theorem dX8_mayOf_32 : decode cX8_mayOf 32 = .ok (.iconst 1, 1) := by decide +kernel
theorem dX8_mayOf_33 : decode cX8_mayOf 33 = .ok (.iload 4, 2) := by decide +kernel
theorem dX8_mayOf_35 : decode cX8_mayOf 35 = .ok (.ishl, 1) := by decide +kernel
theorem dX8_mayOf_36 : decode cX8_mayOf 36 = .ok (.goto 4, 3) := by decide +kernel
theorem dX8_mayOf_39 : decode cX8_mayOf 39 = .ok (.iconst 0, 1) := by decide +kernel
theorem dX8_mayOf_40 : decode cX8_mayOf 40 = .ok (.ior, 1) := by decide +kernel
theorem dX8_mayOf_41 : decode cX8_mayOf 41 = .ok (.istore_n 3, 1) := by decide +kernel
theorem dX8_mayOf_42 : decode cX8_mayOf 42 = .ok (.iconst 0, 1) := by decide +kernel
theorem dX8_mayOf_43 : decode cX8_mayOf 43 = .ok (.istore 5, 2) := by decide +kernel
theorem dX8_mayOf_45 : decode cX8_mayOf 45 = .ok (.iload 5, 2) := by decide +kernel
theorem dX8_mayOf_47 : decode cX8_mayOf 47 = .ok (.aload_n 0, 1) := by decide +kernel
theorem dX8_mayOf_48 : decode cX8_mayOf 48 = .ok (.invokevirtual 106, 3) := by decide +kernel
theorem dX8_mayOf_51 : decode cX8_mayOf 51 = .ok (.if_icmp .gt 49, 3) := by decide +kernel
theorem dX8_mayOf_54 : decode cX8_mayOf 54 = .ok (.iconst 0, 1) := by decide +kernel
theorem dX8_mayOf_55 : decode cX8_mayOf 55 = .ok (.istore 6, 2) := by decide +kernel
theorem dX8_mayOf_57 : decode cX8_mayOf 57 = .ok (.iload 6, 2) := by decide +kernel
theorem dX8_mayOf_59 : decode cX8_mayOf 59 = .ok (.aload_n 0, 1) := by decide +kernel
theorem dX8_mayOf_60 : decode cX8_mayOf 60 = .ok (.invokevirtual 109, 3) := by decide +kernel
theorem dX8_mayOf_63 : decode cX8_mayOf 63 = .ok (.if_icmp .ge 31, 3) := by decide +kernel
theorem dX8_mayOf_66 : decode cX8_mayOf 66 = .ok (.aload_n 0, 1) := by decide +kernel
theorem dX8_mayOf_67 : decode cX8_mayOf 67 = .ok (.getfield 70, 3) := by decide +kernel
theorem dX8_mayOf_70 : decode cX8_mayOf 70 = .ok (.iload 4, 2) := by decide +kernel
theorem dX8_mayOf_72 : decode cX8_mayOf 72 = .ok (.iload 6, 2) := by decide +kernel
theorem dX8_mayOf_74 : decode cX8_mayOf 74 = .ok (.iload 5, 2) := by decide +kernel
theorem dX8_mayOf_76 : decode cX8_mayOf 76 = .ok (.invokestatic 406, 3) := by decide +kernel
theorem dX8_mayOf_79 : decode cX8_mayOf 79 = .ok (.aload_n 0, 1) := by decide +kernel
theorem dX8_mayOf_80 : decode cX8_mayOf 80 = .ok (.iload 6, 2) := by decide +kernel
theorem dX8_mayOf_82 : decode cX8_mayOf 82 = .ok (.iload 5, 2) := by decide +kernel
theorem dX8_mayOf_84 : decode cX8_mayOf 84 = .ok (.invokevirtual 298, 3) := by decide +kernel
theorem dX8_mayOf_87 : decode cX8_mayOf 87 = .ok (.iastore, 1) := by decide +kernel
theorem dX8_mayOf_88 : decode cX8_mayOf 88 = .ok (.iinc 6 1, 3) := by decide +kernel
theorem dX8_mayOf_91 : decode cX8_mayOf 91 = .ok (.goto (-34), 3) := by decide +kernel
theorem dX8_mayOf_94 : decode cX8_mayOf 94 = .ok (.iinc 5 1, 3) := by decide +kernel
theorem dX8_mayOf_97 : decode cX8_mayOf 97 = .ok (.goto (-52), 3) := by decide +kernel
theorem dX8_mayOf_100 : decode cX8_mayOf 100 = .ok (.iinc 4 1, 3) := by decide +kernel
theorem dX8_mayOf_103 : decode cX8_mayOf 103 = .ok (.goto (-98), 3) := by decide +kernel
theorem dX8_mayOf_106 : decode cX8_mayOf 106 = .ok (.iload_n 3, 1) := by decide +kernel
theorem dX8_mayOf_107 : decode cX8_mayOf 107 = .ok (.ireturn, 1) := by decide +kernel
theorem dX8_askMay_0 : decode cX8_askMay 0 = .ok (.aload_n 0, 1) := by decide +kernel
theorem dX8_askMay_1 : decode cX8_askMay 1 = .ok (.iload_n 2, 1) := by decide +kernel
theorem dX8_askMay_2 : decode cX8_askMay 2 = .ok (.i2l, 1) := by decide +kernel
theorem dX8_askMay_3 : decode cX8_askMay 3 = .ok (.invokevirtual 112, 3) := by decide +kernel
theorem dX8_askMay_6 : decode cX8_askMay 6 = .ok (.ifCond .eq 11, 3) := by decide +kernel
theorem dX8_askMay_9 : decode cX8_askMay 9 = .ok (.aload_n 0, 1) := by decide +kernel
theorem dX8_askMay_10 : decode cX8_askMay 10 = .ok (.iload_n 1, 1) := by decide +kernel
theorem dX8_askMay_11 : decode cX8_askMay 11 = .ok (.invokevirtual 410, 3) := by decide +kernel
theorem dX8_askMay_14 : decode cX8_askMay 14 = .ok (.goto 5, 3) := by decide +kernel
theorem dX8_askMay_17 : decode cX8_askMay 17 = .ok (.bipush (-2), 2) := by decide +kernel
theorem dX8_askMay_19 : decode cX8_askMay 19 = .ok (.ireturn, 1) := by decide +kernel
theorem dX8_may_0 : decode cX8_may 0 = .ok (.aload_n 0, 1) := by decide +kernel
theorem dX8_may_1 : decode cX8_may 1 = .ok (.iload_n 1, 1) := by decide +kernel
theorem dX8_may_2 : decode cX8_may 2 = .ok (.iload_n 2, 1) := by decide +kernel
theorem dX8_may_3 : decode cX8_may 3 = .ok (.invokevirtual 413, 3) := by decide +kernel
theorem dX8_may_6 : decode cX8_may 6 = .ok (.istore_n 3, 1) := by decide +kernel
theorem dX8_may_7 : decode cX8_may 7 = .ok (.iload_n 3, 1) := by decide +kernel
theorem dX8_may_8 : decode cX8_may 8 = .ok (.ifCond .ge 7, 3) := by decide +kernel
theorem dX8_may_11 : decode cX8_may 11 = .ok (.iload_n 3, 1) := by decide +kernel
theorem dX8_may_12 : decode cX8_may 12 = .ok (.goto 9, 3) := by decide +kernel
theorem dX8_may_15 : decode cX8_may 15 = .ok (.aload_n 0, 1) := by decide +kernel
theorem dX8_may_16 : decode cX8_may 16 = .ok (.iload_n 1, 1) := by decide +kernel
theorem dX8_may_17 : decode cX8_may 17 = .ok (.iload_n 2, 1) := by decide +kernel
theorem dX8_may_18 : decode cX8_may 18 = .ok (.invokevirtual 416, 3) := by decide +kernel
theorem dX8_may_21 : decode cX8_may 21 = .ok (.ireturn, 1) := by decide +kernel
theorem dX8_worstOf_0 : decode cX8_worstOf 0 = .ok (.iconst 0, 1) := by decide +kernel
theorem dX8_worstOf_1 : decode cX8_worstOf 1 = .ok (.istore 4, 2) := by decide +kernel
theorem dX8_worstOf_3 : decode cX8_worstOf 3 = .ok (.iconst 0, 1) := by decide +kernel
theorem dX8_worstOf_4 : decode cX8_worstOf 4 = .ok (.istore 5, 2) := by decide +kernel
theorem dX8_worstOf_6 : decode cX8_worstOf 6 = .ok (.iload 5, 2) := by decide +kernel
theorem dX8_worstOf_8 : decode cX8_worstOf 8 = .ok (.iconst 4, 1) := by decide +kernel
theorem dX8_worstOf_9 : decode cX8_worstOf 9 = .ok (.if_icmp .ge 93, 3) := by decide +kernel
theorem dX8_worstOf_12 : decode cX8_worstOf 12 = .ok (.iconst 0, 1) := by decide +kernel
theorem dX8_worstOf_13 : decode cX8_worstOf 13 = .ok (.istore 6, 2) := by decide +kernel
theorem dX8_worstOf_15 : decode cX8_worstOf 15 = .ok (.iconst 0, 1) := by decide +kernel
theorem dX8_worstOf_16 : decode cX8_worstOf 16 = .ok (.istore 7, 2) := by decide +kernel
theorem dX8_worstOf_18 : decode cX8_worstOf 18 = .ok (.iload 7, 2) := by decide +kernel
theorem dX8_worstOf_20 : decode cX8_worstOf 20 = .ok (.iconst 4, 1) := by decide +kernel
theorem dX8_worstOf_21 : decode cX8_worstOf 21 = .ok (.if_icmp .ge 66, 3) := by decide +kernel
theorem dX8_worstOf_24 : decode cX8_worstOf 24 = .ok (.iload 6, 2) := by decide +kernel
theorem dX8_worstOf_26 : decode cX8_worstOf 26 = .ok (.iload_n 1, 1) := by decide +kernel
theorem dX8_worstOf_27 : decode cX8_worstOf 27 = .ok (.iload 5, 2) := by decide +kernel
theorem dX8_worstOf_29 : decode cX8_worstOf 29 = .ok (.invokestatic 266, 3) := by decide +kernel
theorem dX8_worstOf_32 : decode cX8_worstOf 32 = .ok (.iconst 1, 1) := by decide +kernel
theorem dX8_worstOf_33 : decode cX8_worstOf 33 = .ok (.if_icmp .ne 44, 3) := by decide +kernel
theorem dX8_worstOf_36 : decode cX8_worstOf 36 = .ok (.iload_n 1, 1) := by decide +kernel
theorem dX8_worstOf_37 : decode cX8_worstOf 37 = .ok (.iload 7, 2) := by decide +kernel
theorem dX8_worstOf_39 : decode cX8_worstOf 39 = .ok (.invokestatic 266, 3) := by decide +kernel
theorem dX8_worstOf_42 : decode cX8_worstOf 42 = .ok (.iconst 1, 1) := by decide +kernel
theorem dX8_worstOf_43 : decode cX8_worstOf 43 = .ok (.if_icmp .ne 34, 3) := by decide +kernel
theorem dX8_worstOf_46 : decode cX8_worstOf 46 = .ok (.aload_n 0, 1) := by decide +kernel
theorem dX8_worstOf_47 : decode cX8_worstOf 47 = .ok (.getfield 70, 3) := by decide +kernel
theorem dX8_worstOf_50 : decode cX8_worstOf 50 = .ok (.iload 5, 2) := by decide +kernel
theorem dX8_worstOf_52 : decode cX8_worstOf 52 = .ok (.iload_n 2, 1) := by decide +kernel
theorem dX8_worstOf_53 : decode cX8_worstOf 53 = .ok (.iload_n 3, 1) := by decide +kernel
theorem dX8_worstOf_54 : decode cX8_worstOf 54 = .ok (.invokestatic 406, 3) := by decide +kernel
theorem dX8_worstOf_57 : decode cX8_worstOf 57 = .ok (.iaload, 1) := by decide +kernel
theorem dX8_worstOf_58 : decode cX8_worstOf 58 = .ok (.aload_n 0, 1) := by decide +kernel
theorem dX8_worstOf_59 : decode cX8_worstOf 59 = .ok (.getfield 70, 3) := by decide +kernel
theorem dX8_worstOf_62 : decode cX8_worstOf 62 = .ok (.iload 7, 2) := by decide +kernel
theorem dX8_worstOf_64 : decode cX8_worstOf 64 = .ok (.iload_n 2, 1) := by decide +kernel
theorem dX8_worstOf_65 : decode cX8_worstOf 65 = .ok (.iload_n 3, 1) := by decide +kernel
theorem dX8_worstOf_66 : decode cX8_worstOf 66 = .ok (.invokestatic 406, 3) := by decide +kernel
theorem dX8_worstOf_69 : decode cX8_worstOf 69 = .ok (.iaload, 1) := by decide +kernel
theorem dX8_worstOf_70 : decode cX8_worstOf 70 = .ok (.if_icmp .ne 7, 3) := by decide +kernel
theorem dX8_worstOf_73 : decode cX8_worstOf 73 = .ok (.iconst 1, 1) := by decide +kernel
theorem dX8_worstOf_74 : decode cX8_worstOf 74 = .ok (.goto 4, 3) := by decide +kernel
theorem dX8_worstOf_77 : decode cX8_worstOf 77 = .ok (.iconst 0, 1) := by decide +kernel
theorem dX8_worstOf_78 : decode cX8_worstOf 78 = .ok (.iadd, 1) := by decide +kernel
theorem dX8_worstOf_79 : decode cX8_worstOf 79 = .ok (.istore 6, 2) := by decide +kernel
theorem dX8_worstOf_81 : decode cX8_worstOf 81 = .ok (.iinc 7 1, 3) := by decide +kernel
theorem dX8_worstOf_84 : decode cX8_worstOf 84 = .ok (.goto (-66), 3) := by decide +kernel
theorem dX8_worstOf_87 : decode cX8_worstOf 87 = .ok (.iload 4, 2) := by decide +kernel
theorem dX8_worstOf_89 : decode cX8_worstOf 89 = .ok (.iload 6, 2) := by decide +kernel
theorem dX8_worstOf_91 : decode cX8_worstOf 91 = .ok (.invokestatic 343, 3) := by decide +kernel
theorem dX8_worstOf_94 : decode cX8_worstOf 94 = .ok (.istore 4, 2) := by decide +kernel
theorem dX8_worstOf_96 : decode cX8_worstOf 96 = .ok (.iinc 5 1, 3) := by decide +kernel
theorem dX8_worstOf_99 : decode cX8_worstOf 99 = .ok (.goto (-93), 3) := by decide +kernel
theorem dX8_worstOf_102 : decode cX8_worstOf 102 = .ok (.iload 4, 2) := by decide +kernel
theorem dX8_worstOf_104 : decode cX8_worstOf 104 = .ok (.ireturn, 1) := by decide +kernel
theorem dX8_askOf_0 : decode cX8_askOf 0 = .ok (.aload_n 0, 1) := by decide +kernel
theorem dX8_askOf_1 : decode cX8_askOf 1 = .ok (.iload_n 1, 1) := by decide +kernel
theorem dX8_askOf_2 : decode cX8_askOf 2 = .ok (.invokestatic 334, 3) := by decide +kernel
theorem dX8_askOf_5 : decode cX8_askOf 5 = .ok (.putfield 419, 3) := by decide +kernel
theorem dX8_askOf_8 : decode cX8_askOf 8 = .ok (.iconst (-1), 1) := by decide +kernel
theorem dX8_askOf_9 : decode cX8_askOf 9 = .ok (.istore_n 2, 1) := by decide +kernel
theorem dX8_askOf_10 : decode cX8_askOf 10 = .ok (.iconst 0, 1) := by decide +kernel
theorem dX8_askOf_11 : decode cX8_askOf 11 = .ok (.istore_n 3, 1) := by decide +kernel
theorem dX8_askOf_12 : decode cX8_askOf 12 = .ok (.iload_n 3, 1) := by decide +kernel
theorem dX8_askOf_13 : decode cX8_askOf 13 = .ok (.aload_n 0, 1) := by decide +kernel
theorem dX8_askOf_14 : decode cX8_askOf 14 = .ok (.invokevirtual 109, 3) := by decide +kernel
theorem dX8_askOf_17 : decode cX8_askOf 17 = .ok (.if_icmp .ge 63, 3) := by decide +kernel
theorem dX8_askOf_20 : decode cX8_askOf 20 = .ok (.iconst 0, 1) := by decide +kernel
theorem dX8_askOf_21 : decode cX8_askOf 21 = .ok (.istore 4, 2) := by decide +kernel
theorem dX8_askOf_23 : decode cX8_askOf 23 = .ok (.iload 4, 2) := by decide +kernel
theorem dX8_askOf_25 : decode cX8_askOf 25 = .ok (.aload_n 0, 1) := by decide +kernel
theorem dX8_askOf_26 : decode cX8_askOf 26 = .ok (.invokevirtual 106, 3) := by decide +kernel
theorem dX8_askOf_29 : decode cX8_askOf 29 = .ok (.if_icmp .gt 45, 3) := by decide +kernel
theorem dX8_askOf_32 : decode cX8_askOf 32 = .ok (.aload_n 0, 1) := by decide +kernel
theorem dX8_askOf_33 : decode cX8_askOf 33 = .ok (.iload_n 1, 1) := by decide +kernel
theorem dX8_askOf_34 : decode cX8_askOf 34 = .ok (.iload_n 3, 1) := by decide +kernel
theorem dX8_askOf_35 : decode cX8_askOf 35 = .ok (.iload 4, 2) := by decide +kernel
theorem dX8_askOf_37 : decode cX8_askOf 37 = .ok (.invokevirtual 422, 3) := by decide +kernel
theorem dX8_askOf_40 : decode cX8_askOf 40 = .ok (.istore 5, 2) := by decide +kernel
theorem dX8_askOf_42 : decode cX8_askOf 42 = .ok (.iload 5, 2) := by decide +kernel
theorem dX8_askOf_44 : decode cX8_askOf 44 = .ok (.aload_n 0, 1) := by decide +kernel
theorem dX8_askOf_45 : decode cX8_askOf 45 = .ok (.getfield 419, 3) := by decide +kernel
theorem dX8_askOf_48 : decode cX8_askOf 48 = .ok (.if_icmp .lt 6, 3) := by decide +kernel
theorem dX8_askOf_51 : decode cX8_askOf 51 = .ok (.goto 17, 3) := by decide +kernel
theorem dX8_askOf_54 : decode cX8_askOf 54 = .ok (.aload_n 0, 1) := by decide +kernel
theorem dX8_askOf_55 : decode cX8_askOf 55 = .ok (.iload 5, 2) := by decide +kernel
theorem dX8_askOf_57 : decode cX8_askOf 57 = .ok (.putfield 419, 3) := by decide +kernel
theorem dX8_askOf_60 : decode cX8_askOf 60 = .ok (.bipush 100, 2) := by decide +kernel
theorem dX8_askOf_62 : decode cX8_askOf 62 = .ok (.iload_n 3, 1) := by decide +kernel
theorem dX8_askOf_63 : decode cX8_askOf 63 = .ok (.imul, 1) := by decide +kernel
theorem dX8_askOf_64 : decode cX8_askOf 64 = .ok (.iload 4, 2) := by decide +kernel
theorem dX8_askOf_66 : decode cX8_askOf 66 = .ok (.iadd, 1) := by decide +kernel
theorem dX8_askOf_67 : decode cX8_askOf 67 = .ok (.istore_n 2, 1) := by decide +kernel
theorem dX8_askOf_68 : decode cX8_askOf 68 = .ok (.iinc 4 1, 3) := by decide +kernel
theorem dX8_askOf_71 : decode cX8_askOf 71 = .ok (.goto (-48), 3) := by decide +kernel
theorem dX8_askOf_74 : decode cX8_askOf 74 = .ok (.iinc 3 1, 3) := by decide +kernel
theorem dX8_askOf_77 : decode cX8_askOf 77 = .ok (.goto (-65), 3) := by decide +kernel
theorem dX8_askOf_80 : decode cX8_askOf 80 = .ok (.iload_n 2, 1) := by decide +kernel
theorem dX8_askOf_81 : decode cX8_askOf 81 = .ok (.ireturn, 1) := by decide +kernel
theorem dX8_ask_0 : decode cX8_ask 0 = .ok (.aload_n 0, 1) := by decide +kernel
theorem dX8_ask_1 : decode cX8_ask 1 = .ok (.iload_n 1, 1) := by decide +kernel
theorem dX8_ask_2 : decode cX8_ask 2 = .ok (.iload_n 2, 1) := by decide +kernel
theorem dX8_ask_3 : decode cX8_ask 3 = .ok (.invokevirtual 413, 3) := by decide +kernel
theorem dX8_ask_6 : decode cX8_ask 6 = .ok (.istore_n 3, 1) := by decide +kernel
theorem dX8_ask_7 : decode cX8_ask 7 = .ok (.iload_n 3, 1) := by decide +kernel
theorem dX8_ask_8 : decode cX8_ask 8 = .ok (.ifCond .ge 7, 3) := by decide +kernel
theorem dX8_ask_11 : decode cX8_ask 11 = .ok (.iload_n 3, 1) := by decide +kernel
theorem dX8_ask_12 : decode cX8_ask 12 = .ok (.goto 13, 3) := by decide +kernel
theorem dX8_ask_15 : decode cX8_ask 15 = .ok (.aload_n 0, 1) := by decide +kernel
theorem dX8_ask_16 : decode cX8_ask 16 = .ok (.aload_n 0, 1) := by decide +kernel
theorem dX8_ask_17 : decode cX8_ask 17 = .ok (.iload_n 1, 1) := by decide +kernel
theorem dX8_ask_18 : decode cX8_ask 18 = .ok (.iload_n 2, 1) := by decide +kernel
theorem dX8_ask_19 : decode cX8_ask 19 = .ok (.invokevirtual 416, 3) := by decide +kernel
theorem dX8_ask_22 : decode cX8_ask 22 = .ok (.invokevirtual 425, 3) := by decide +kernel
theorem dX8_ask_25 : decode cX8_ask 25 = .ok (.ireturn, 1) := by decide +kernel
theorem dX8_leaves_0 : decode cX8_leaves 0 = .ok (.aload_n 0, 1) := by decide +kernel
theorem dX8_leaves_1 : decode cX8_leaves 1 = .ok (.iload_n 1, 1) := by decide +kernel
theorem dX8_leaves_2 : decode cX8_leaves 2 = .ok (.iload_n 2, 1) := by decide +kernel
theorem dX8_leaves_3 : decode cX8_leaves 3 = .ok (.invokevirtual 413, 3) := by decide +kernel
theorem dX8_leaves_6 : decode cX8_leaves 6 = .ok (.istore_n 3, 1) := by decide +kernel
theorem dX8_leaves_7 : decode cX8_leaves 7 = .ok (.iload_n 3, 1) := by decide +kernel
theorem dX8_leaves_8 : decode cX8_leaves 8 = .ok (.ifCond .ge 5, 3) := by decide +kernel
theorem dX8_leaves_11 : decode cX8_leaves 11 = .ok (.iload_n 3, 1) := by decide +kernel
theorem dX8_leaves_12 : decode cX8_leaves 12 = .ok (.ireturn, 1) := by decide +kernel
theorem dX8_leaves_13 : decode cX8_leaves 13 = .ok (.aload_n 0, 1) := by decide +kernel
theorem dX8_leaves_14 : decode cX8_leaves 14 = .ok (.aload_n 0, 1) := by decide +kernel
theorem dX8_leaves_15 : decode cX8_leaves 15 = .ok (.iload_n 1, 1) := by decide +kernel
theorem dX8_leaves_16 : decode cX8_leaves 16 = .ok (.iload_n 2, 1) := by decide +kernel
theorem dX8_leaves_17 : decode cX8_leaves 17 = .ok (.invokevirtual 416, 3) := by decide +kernel
theorem dX8_leaves_20 : decode cX8_leaves 20 = .ok (.invokevirtual 425, 3) := by decide +kernel
theorem dX8_leaves_23 : decode cX8_leaves 23 = .ok (.pop, 1) := by decide +kernel
theorem dX8_leaves_24 : decode cX8_leaves 24 = .ok (.aload_n 0, 1) := by decide +kernel
theorem dX8_leaves_25 : decode cX8_leaves 25 = .ok (.getfield 419, 3) := by decide +kernel
theorem dX8_leaves_28 : decode cX8_leaves 28 = .ok (.ireturn, 1) := by decide +kernel
theorem dX8_laws_0 : decode cX8_laws 0 = .ok (.aload_n 0, 1) := by decide +kernel
theorem dX8_laws_1 : decode cX8_laws 1 = .ok (.iload_n 1, 1) := by decide +kernel
theorem dX8_laws_2 : decode cX8_laws 2 = .ok (.invokevirtual 410, 3) := by decide +kernel
theorem dX8_laws_5 : decode cX8_laws 5 = .ok (.istore_n 2, 1) := by decide +kernel
theorem dX8_laws_6 : decode cX8_laws 6 = .ok (.iload_n 2, 1) := by decide +kernel
theorem dX8_laws_7 : decode cX8_laws 7 = .ok (.ifCond .ge 5, 3) := by decide +kernel
theorem dX8_laws_10 : decode cX8_laws 10 = .ok (.iload_n 2, 1) := by decide +kernel
theorem dX8_laws_11 : decode cX8_laws 11 = .ok (.ireturn, 1) := by decide +kernel
theorem dX8_laws_12 : decode cX8_laws 12 = .ok (.iconst 0, 1) := by decide +kernel
theorem dX8_laws_13 : decode cX8_laws 13 = .ok (.istore_n 3, 1) := by decide +kernel
theorem dX8_laws_14 : decode cX8_laws 14 = .ok (.aload_n 0, 1) := by decide +kernel
theorem dX8_laws_15 : decode cX8_laws 15 = .ok (.iconst 0, 1) := by decide +kernel
theorem dX8_laws_16 : decode cX8_laws 16 = .ok (.putfield 257, 3) := by decide +kernel
theorem dX8_laws_19 : decode cX8_laws 19 = .ok (.aload_n 0, 1) := by decide +kernel
theorem dX8_laws_20 : decode cX8_laws 20 = .ok (.getfield 257, 3) := by decide +kernel
theorem dX8_laws_23 : decode cX8_laws 23 = .ok (.iconst 4, 1) := by decide +kernel
theorem dX8_laws_24 : decode cX8_laws 24 = .ok (.if_icmp .ge 37, 3) := by decide +kernel
theorem dX8_laws_27 : decode cX8_laws 27 = .ok (.iload_n 3, 1) := by decide +kernel
theorem dX8_laws_28 : decode cX8_laws 28 = .ok (.aload_n 0, 1) := by decide +kernel
theorem dX8_laws_29 : decode cX8_laws 29 = .ok (.iload_n 1, 1) := by decide +kernel
theorem dX8_laws_30 : decode cX8_laws 30 = .ok (.invokevirtual 403, 3) := by decide +kernel
theorem dX8_laws_33 : decode cX8_laws 33 = .ok (.ifCond .eq 12, 3) := by decide +kernel
theorem dX8_laws_36 : decode cX8_laws 36 = .ok (.iconst 1, 1) := by decide +kernel
theorem dX8_laws_37 : decode cX8_laws 37 = .ok (.aload_n 0, 1) := by decide +kernel
theorem dX8_laws_38 : decode cX8_laws 38 = .ok (.getfield 257, 3) := by decide +kernel
theorem dX8_laws_41 : decode cX8_laws 41 = .ok (.ishl, 1) := by decide +kernel
theorem dX8_laws_42 : decode cX8_laws 42 = .ok (.goto 4, 3) := by decide +kernel
theorem dX8_laws_45 : decode cX8_laws 45 = .ok (.iconst 0, 1) := by decide +kernel
theorem dX8_laws_46 : decode cX8_laws 46 = .ok (.ior, 1) := by decide +kernel
theorem dX8_laws_47 : decode cX8_laws 47 = .ok (.istore_n 3, 1) := by decide +kernel
theorem dX8_laws_48 : decode cX8_laws 48 = .ok (.aload_n 0, 1) := by decide +kernel
theorem dX8_laws_49 : decode cX8_laws 49 = .ok (.dup, 1) := by decide +kernel
theorem dX8_laws_50 : decode cX8_laws 50 = .ok (.getfield 257, 3) := by decide +kernel
theorem dX8_laws_53 : decode cX8_laws 53 = .ok (.iconst 1, 1) := by decide +kernel
theorem dX8_laws_54 : decode cX8_laws 54 = .ok (.iadd, 1) := by decide +kernel
theorem dX8_laws_55 : decode cX8_laws 55 = .ok (.putfield 257, 3) := by decide +kernel
theorem dX8_laws_58 : decode cX8_laws 58 = .ok (.goto (-39), 3) := by decide +kernel
theorem dX8_laws_61 : decode cX8_laws 61 = .ok (.iload_n 3, 1) := by decide +kernel
theorem dX8_laws_62 : decode cX8_laws 62 = .ok (.ireturn, 1) := by decide +kernel
theorem dX8_isSlot_0 : decode cX8_isSlot 0 = .ok (.iload_n 0, 1) := by decide +kernel
theorem dX8_isSlot_1 : decode cX8_isSlot 1 = .ok (.i2l, 1) := by decide +kernel
theorem dX8_isSlot_2 : decode cX8_isSlot 2 = .ok (.lconst 0, 1) := by decide +kernel
theorem dX8_isSlot_3 : decode cX8_isSlot 3 = .ok (.ldc2_w 428, 3) := by decide +kernel
theorem dX8_isSlot_6 : decode cX8_isSlot 6 = .ok (.invokestatic 94, 3) := by decide +kernel
theorem dX8_isSlot_9 : decode cX8_isSlot 9 = .ok (.ireturn, 1) := by decide +kernel
def acM (f : Nat → Int32) (c : Nat) : Bool := decide (¬ f c = -1)
def acI (f : Nat → Int32) (c : Nat) : Bool := decide (¬ f c = 0)
theorem acM_f {f : Nat → Int32} {c : Nat} (e : f c = -1) : acM f c = false := decide_eq_false (fun z => z e)
theorem acM_t {f : Nat → Int32} {c n : Nat} (e : f c = nI n) (hn : n < 2 ^ 31) : acM f c = true := decide_eq_true (fun z => nI_nm1 hn (e.symm.trans z))
theorem row_k {q w n : Int32} (h : (0 ≤ q.toInt ∧ q.toInt < 4) ∧ (0 ≤ w.toInt ∧ w.toInt ≤ 3) ∧ 0 ≤ n.toInt ∧ n.toInt ≤ 60) : 0 = sp_row q w n := by
  unfold sp_row; rw [if_pos (by omega), if_neg (by omega)]
theorem row_n {q w n : Int32} (h : (0 ≤ q.toInt ∧ q.toInt < 4) ∧ (0 ≤ w.toInt ∧ w.toInt ≤ 3) ∧ n.toInt < 0) : -3 = sp_row q w n := by
  unfold sp_row; rw [if_pos (by omega), if_pos (by omega)]
theorem row_o {q w n : Int32} (h : ¬ (0 ≤ q.toInt ∧ q.toInt < 4 ∧ 0 ≤ w.toInt ∧ w.toInt ≤ 3 ∧ n.toInt ≤ 60)) : -2 = sp_row q w n := by
  unfold sp_row; rw [if_neg h]
theorem slot_out {x : Int32} (h : ¬ (0 ≤ x.toInt ∧ x.toInt ≤ 3)) : x < 0 ∨ 4 ≤ x := by
  by_cases y : x < 0
  · exact Or.inl y
  · refine Or.inr (Int32.le_iff_toInt_le.mpr ?_)
    have y2 := i32_ge y
    have k0 : (0 : Int32).toInt = 0 := (by decide)
    have k4 : (4 : Int32).toInt = 4 := (by decide)
    omega
theorem wd920 : Cond.fieldLink RX8 82 RX8 "numbers" "[J" ∈ tblG := gw6 73 (by decide +kernel) (by decide +kernel)
theorem fk_X8_82 : FLk RX8 82 8 39 (.array .long) true := ⟨RX8, TX8, 41, tyX8, clX8, by decide, rfl, rfl, rfl, Or.inl wd920⟩
theorem wd921 : Cond.methodLink RX8 394 yX8_isSlot ∈ tblG := gw8 187 (by decide +kernel) (by decide +kernel)
theorem wd922 : Cond.static yX8_isSlot ∈ tblG := gw8 188 (by decide +kernel) (by decide +kernel)
theorem wd923 : Cond.code yX8_isSlot cX8_isSlot 1 (some .boolean) ∈ tblG := gw8 189 (by decide +kernel) (by decide +kernel)
theorem pl_X8_isSlot : Plain yX8_isSlot 1 := ⟨by decide, by decide, by decide +kernel⟩
theorem lk_X8_394 : LkS RX8 394 yX8_isSlot cX8_isSlot 1 (some .boolean) 1 := ⟨wd921, wd922, wd649, wd923, pl_X8_isSlot⟩
theorem wd924 : Cond.methodLink RX8 397 yX8_numberAt ∈ tblG := gw8 191 (by decide +kernel) (by decide +kernel)
theorem wd925 : Cond.instanceMethod yX8_numberAt ∈ tblG := gw8 193 (by decide +kernel) (by decide +kernel)
theorem wd926 : Cond.selects RX8 yX8_numberAt yX8_numberAt ∈ tblG := gw0 112 (by decide +kernel) (by decide +kernel)
theorem wd927 : Cond.code yX8_numberAt cX8_numberAt 3 (some .long) ∈ tblG := gw8 194 (by decide +kernel) (by decide +kernel)
theorem pl_X8_numberAt : Plain yX8_numberAt 2 := ⟨by decide, by decide, by decide +kernel⟩
theorem lk_X8_397 : LkV RX8 397 8 yX8_numberAt cX8_numberAt 3 (some .long) 2 := ⟨⟨TX8, 41, rfl⟩, wd924, wd925, wd926, wd649, wd927, pl_X8_numberAt⟩
theorem wd928 : Cond.constantLong RX8 401 (-1) ∈ tblG := gw8 195 (by decide +kernel) (by decide +kernel)
theorem wd929 : Cond.methodLink RX8 403 yX8_isSeen ∈ tblG := gw8 200 (by decide +kernel) (by decide +kernel)
theorem wd930 : Cond.instanceMethod yX8_isSeen ∈ tblG := gw8 202 (by decide +kernel) (by decide +kernel)
theorem wd931 : Cond.selects RX8 yX8_isSeen yX8_isSeen ∈ tblG := gw0 114 (by decide +kernel) (by decide +kernel)
theorem wd932 : Cond.code yX8_isSeen cX8_isSeen 3 (some .boolean) ∈ tblG := gw8 203 (by decide +kernel) (by decide +kernel)
theorem pl_X8_isSeen : Plain yX8_isSeen 1 := ⟨by decide, by decide, by decide +kernel⟩
theorem lk_X8_403 : LkV RX8 403 8 yX8_isSeen cX8_isSeen 3 (some .boolean) 1 := ⟨⟨TX8, 41, rfl⟩, wd929, wd930, wd931, wd649, wd932, pl_X8_isSeen⟩
theorem wd933 : Cond.fieldLink RX8 70 RX8 "placeBy" "[I" ∈ tblG := gw6 65 (by decide +kernel) (by decide +kernel)
theorem fk_X8_70 : FLk RX8 70 8 31 (.array .int) true := ⟨RX8, TX8, 41, tyX8, clX8, by decide, rfl, rfl, rfl, Or.inl wd933⟩
theorem wd934 : Cond.methodLink RX8 406 yX8_cellOf ∈ tblG := gw8 204 (by decide +kernel) (by decide +kernel)
theorem wd935 : Cond.static yX8_cellOf ∈ tblG := gw8 205 (by decide +kernel) (by decide +kernel)
theorem wd936 : Cond.code yX8_cellOf cX8_cellOf 3 (some .int) ∈ tblG := gw8 206 (by decide +kernel) (by decide +kernel)
theorem pl_X8_cellOf : Plain yX8_cellOf 3 := ⟨by decide, by decide, by decide +kernel⟩
theorem lk_X8_406 : LkS RX8 406 yX8_cellOf cX8_cellOf 3 (some .int) 3 := ⟨wd934, wd935, wd649, wd936, pl_X8_cellOf⟩
theorem wd937 : Cond.methodLink RX8 410 yX8_askSeen ∈ tblG := gw8 183 (by decide +kernel) (by decide +kernel)
theorem wd938 : Cond.instanceMethod yX8_askSeen ∈ tblG := gw8 185 (by decide +kernel) (by decide +kernel)
theorem wd939 : Cond.selects RX8 yX8_askSeen yX8_askSeen ∈ tblG := gw0 111 (by decide +kernel) (by decide +kernel)
theorem wd940 : Cond.code yX8_askSeen cX8_askSeen 3 (some .int) ∈ tblG := gw8 186 (by decide +kernel) (by decide +kernel)
theorem pl_X8_askSeen : Plain yX8_askSeen 1 := ⟨by decide, by decide, by decide +kernel⟩
theorem lk_X8_410 : LkV RX8 410 8 yX8_askSeen cX8_askSeen 3 (some .int) 1 := ⟨⟨TX8, 41, rfl⟩, wd937, wd938, wd939, wd649, wd940, pl_X8_askSeen⟩
theorem wd941 : Cond.fieldLink RX8 419 RX8 "askWorst" "I" ∈ tblG := gw6 66 (by decide +kernel) (by decide +kernel)
theorem fk_X8_419 : FLk RX8 419 8 32 (.int) false := ⟨RX8, TX8, 41, tyX8, clX8, by decide, rfl, rfl, rfl, Or.inl wd941⟩
theorem wd942 : Cond.methodLink RX8 422 yX8_worstOf ∈ tblG := gw8 215 (by decide +kernel) (by decide +kernel)
theorem wd943 : Cond.instanceMethod yX8_worstOf ∈ tblG := gw8 217 (by decide +kernel) (by decide +kernel)
theorem wd944 : Cond.selects RX8 yX8_worstOf yX8_worstOf ∈ tblG := gw0 116 (by decide +kernel) (by decide +kernel)
theorem wd945 : Cond.code yX8_worstOf cX8_worstOf 8 (some .int) ∈ tblG := gw8 218 (by decide +kernel) (by decide +kernel)
theorem pl_X8_worstOf : Plain yX8_worstOf 3 := ⟨by decide, by decide, by decide +kernel⟩
theorem lk_X8_422 : LkV RX8 422 8 yX8_worstOf cX8_worstOf 8 (some .int) 3 := ⟨⟨TX8, 41, rfl⟩, wd942, wd943, wd944, wd649, wd945, pl_X8_worstOf⟩
theorem wd946 : Cond.methodLink RX8 413 yX8_askMay ∈ tblG := gw8 179 (by decide +kernel) (by decide +kernel)
theorem wd947 : Cond.instanceMethod yX8_askMay ∈ tblG := gw8 181 (by decide +kernel) (by decide +kernel)
theorem wd948 : Cond.selects RX8 yX8_askMay yX8_askMay ∈ tblG := gw0 110 (by decide +kernel) (by decide +kernel)
theorem wd949 : Cond.code yX8_askMay cX8_askMay 3 (some .int) ∈ tblG := gw8 182 (by decide +kernel) (by decide +kernel)
theorem pl_X8_askMay : Plain yX8_askMay 2 := ⟨by decide, by decide, by decide +kernel⟩
theorem lk_X8_413 : LkV RX8 413 8 yX8_askMay cX8_askMay 3 (some .int) 2 := ⟨⟨TX8, 41, rfl⟩, wd946, wd947, wd948, wd649, wd949, pl_X8_askMay⟩
theorem wd950 : Cond.methodLink RX8 416 yX8_mayOf ∈ tblG := gw8 196 (by decide +kernel) (by decide +kernel)
theorem wd951 : Cond.instanceMethod yX8_mayOf ∈ tblG := gw8 198 (by decide +kernel) (by decide +kernel)
theorem wd952 : Cond.selects RX8 yX8_mayOf yX8_mayOf ∈ tblG := gw0 113 (by decide +kernel) (by decide +kernel)
theorem wd953 : Cond.code yX8_mayOf cX8_mayOf 7 (some .int) ∈ tblG := gw8 199 (by decide +kernel) (by decide +kernel)
theorem pl_X8_mayOf : Plain yX8_mayOf 2 := ⟨by decide, by decide, by decide +kernel⟩
theorem lk_X8_416 : LkV RX8 416 8 yX8_mayOf cX8_mayOf 7 (some .int) 2 := ⟨⟨TX8, 41, rfl⟩, wd950, wd951, wd952, wd649, wd953, pl_X8_mayOf⟩
theorem wd954 : Cond.methodLink RX8 425 yX8_askOf ∈ tblG := gw8 211 (by decide +kernel) (by decide +kernel)
theorem wd955 : Cond.instanceMethod yX8_askOf ∈ tblG := gw8 213 (by decide +kernel) (by decide +kernel)
theorem wd956 : Cond.selects RX8 yX8_askOf yX8_askOf ∈ tblG := gw0 115 (by decide +kernel) (by decide +kernel)
theorem wd957 : Cond.code yX8_askOf cX8_askOf 6 (some .int) ∈ tblG := gw8 214 (by decide +kernel) (by decide +kernel)
theorem pl_X8_askOf : Plain yX8_askOf 1 := ⟨by decide, by decide, by decide +kernel⟩
theorem lk_X8_425 : LkV RX8 425 8 yX8_askOf cX8_askOf 6 (some .int) 1 := ⟨⟨TX8, 41, rfl⟩, wd954, wd955, wd956, wd649, wd957, pl_X8_askOf⟩
