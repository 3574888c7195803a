theorem dX7_point_0 : decode cX7_point 0 = .ok (.aload_n 0, 1) := by decide +kernel
theorem dX7_point_1 : decode cX7_point 1 = .ok (.getfield 19, 3) := by decide +kernel
theorem dX7_point_4 : decode cX7_point 4 = .ok (.iload_n 1, 1) := by decide +kernel
theorem dX7_point_5 : decode cX7_point 5 = .ok (.invokevirtual 122, 3) := by decide +kernel
theorem dX7_point_8 : decode cX7_point 8 = .ok (.ifCond .eq 14, 3) := by decide +kernel
theorem dX7_point_11 : decode cX7_point 11 = .ok (.aload_n 0, 1) := by decide +kernel
theorem dX7_point_12 : decode cX7_point 12 = .ok (.getfield 19, 3) := by decide +kernel
theorem dX7_point_15 : decode cX7_point 15 = .ok (.iload_n 2, 1) := by decide +kernel
theorem dX7_point_16 : decode cX7_point 16 = .ok (.invokevirtual 99, 3) := by decide +kernel
theorem dX7_point_19 : decode cX7_point 19 = .ok (.ifCond .ne 6, 3) := by decide +kernel
theorem dX7_point_22 : decode cX7_point 22 = .ok (.bipush (-2), 2) := by decide +kernel
theorem dX7_point_24 : decode cX7_point 24 = .ok (.ireturn, 1) := by decide +kernel
theorem dX7_point_25 : decode cX7_point 25 = .ok (.aload_n 0, 1) := by decide +kernel
theorem dX7_point_26 : decode cX7_point 26 = .ok (.getfield 41, 3) := by decide +kernel
theorem dX7_point_29 : decode cX7_point 29 = .ok (.iload_n 1, 1) := by decide +kernel
theorem dX7_point_30 : decode cX7_point 30 = .ok (.bipush 10, 2) := by decide +kernel
theorem dX7_point_32 : decode cX7_point 32 = .ok (.iload_n 2, 1) := by decide +kernel
theorem dX7_point_33 : decode cX7_point 33 = .ok (.iadd, 1) := by decide +kernel
theorem dX7_point_34 : decode cX7_point 34 = .ok (.invokevirtual 264, 3) := by decide +kernel
theorem dX7_point_37 : decode cX7_point 37 = .ok (.istore_n 3, 1) := by decide +kernel
theorem dX7_point_38 : decode cX7_point 38 = .ok (.iconst (-1), 1) := by decide +kernel
theorem dX7_point_39 : decode cX7_point 39 = .ok (.istore 4, 2) := by decide +kernel
theorem dX7_point_41 : decode cX7_point 41 = .ok (.iconst 0, 1) := by decide +kernel
theorem dX7_point_42 : decode cX7_point 42 = .ok (.istore 5, 2) := by decide +kernel
theorem dX7_point_44 : decode cX7_point 44 = .ok (.iload 5, 2) := by decide +kernel
theorem dX7_point_46 : decode cX7_point 46 = .ok (.aload_n 0, 1) := by decide +kernel
theorem dX7_point_47 : decode cX7_point 47 = .ok (.getfield 19, 3) := by decide +kernel
theorem dX7_point_50 : decode cX7_point 50 = .ok (.getfield 219, 3) := by decide +kernel
theorem dX7_point_53 : decode cX7_point 53 = .ok (.if_icmp .ge 85, 3) := by decide +kernel
theorem dX7_point_56 : decode cX7_point 56 = .ok (.iconst 0, 1) := by decide +kernel
theorem dX7_point_57 : decode cX7_point 57 = .ok (.istore 6, 2) := by decide +kernel
theorem dX7_point_59 : decode cX7_point 59 = .ok (.iload 6, 2) := by decide +kernel
theorem dX7_point_61 : decode cX7_point 61 = .ok (.aload_n 0, 1) := by decide +kernel
theorem dX7_point_62 : decode cX7_point 62 = .ok (.getfield 19, 3) := by decide +kernel
theorem dX7_point_65 : decode cX7_point 65 = .ok (.getfield 109, 3) := by decide +kernel
theorem dX7_point_68 : decode cX7_point 68 = .ok (.iload 5, 2) := by decide +kernel
theorem dX7_point_70 : decode cX7_point 70 = .ok (.iaload, 1) := by decide +kernel
theorem dX7_point_71 : decode cX7_point 71 = .ok (.if_icmp .ge 61, 3) := by decide +kernel
theorem dX7_point_74 : decode cX7_point 74 = .ok (.aload_n 0, 1) := by decide +kernel
theorem dX7_point_75 : decode cX7_point 75 = .ok (.iload 5, 2) := by decide +kernel
theorem dX7_point_77 : decode cX7_point 77 = .ok (.iload 6, 2) := by decide +kernel
theorem dX7_point_79 : decode cX7_point 79 = .ok (.invokevirtual 267, 3) := by decide +kernel
theorem dX7_point_82 : decode cX7_point 82 = .ok (.aload_n 0, 1) := by decide +kernel
theorem dX7_point_83 : decode cX7_point 83 = .ok (.getfield 45, 3) := by decide +kernel
theorem dX7_point_86 : decode cX7_point 86 = .ok (.iload_n 1, 1) := by decide +kernel
theorem dX7_point_87 : decode cX7_point 87 = .ok (.bipush 10, 2) := by decide +kernel
theorem dX7_point_89 : decode cX7_point 89 = .ok (.iload_n 2, 1) := by decide +kernel
theorem dX7_point_90 : decode cX7_point 90 = .ok (.iadd, 1) := by decide +kernel
theorem dX7_point_91 : decode cX7_point 91 = .ok (.invokevirtual 264, 3) := by decide +kernel
theorem dX7_point_94 : decode cX7_point 94 = .ok (.istore 7, 2) := by decide +kernel
theorem dX7_point_96 : decode cX7_point 96 = .ok (.iload 7, 2) := by decide +kernel
theorem dX7_point_98 : decode cX7_point 98 = .ok (.iconst (-1), 1) := by decide +kernel
theorem dX7_point_99 : decode cX7_point 99 = .ok (.if_icmp .eq 27, 3) := by decide +kernel
theorem dX7_point_102 : decode cX7_point 102 = .ok (.iload_n 3, 1) := by decide +kernel
theorem dX7_point_103 : decode cX7_point 103 = .ok (.iconst (-1), 1) := by decide +kernel
theorem dX7_point_104 : decode cX7_point 104 = .ok (.if_icmp .eq 9, 3) := by decide +kernel
theorem dX7_point_107 : decode cX7_point 107 = .ok (.iload 7, 2) := by decide +kernel
theorem dX7_point_109 : decode cX7_point 109 = .ok (.iload_n 3, 1) := by decide +kernel
theorem dX7_point_110 : decode cX7_point 110 = .ok (.if_icmp .ge 16, 3) := by decide +kernel
theorem dX7_point_113 : decode cX7_point 113 = .ok (.iload 7, 2) := by decide +kernel
theorem dX7_point_115 : decode cX7_point 115 = .ok (.istore_n 3, 1) := by decide +kernel
theorem dX7_point_116 : decode cX7_point 116 = .ok (.bipush 10, 2) := by decide +kernel
theorem dX7_point_118 : decode cX7_point 118 = .ok (.iload 5, 2) := by decide +kernel
theorem dX7_point_120 : decode cX7_point 120 = .ok (.imul, 1) := by decide +kernel
theorem dX7_point_121 : decode cX7_point 121 = .ok (.iload 6, 2) := by decide +kernel
theorem dX7_point_123 : decode cX7_point 123 = .ok (.iadd, 1) := by decide +kernel
theorem dX7_point_124 : decode cX7_point 124 = .ok (.istore 4, 2) := by decide +kernel
theorem dX7_point_126 : decode cX7_point 126 = .ok (.iinc 6 1, 3) := by decide +kernel
theorem dX7_point_129 : decode cX7_point 129 = .ok (.goto (-70), 3) := by decide +kernel
theorem dX7_point_132 : decode cX7_point 132 = .ok (.iinc 5 1, 3) := by decide +kernel
theorem dX7_point_135 : decode cX7_point 135 = .ok (.goto (-91), 3) := by decide +kernel
theorem dX7_point_138 : decode cX7_point 138 = .ok (.iload 4, 2) := by decide +kernel
theorem dX7_point_140 : decode cX7_point 140 = .ok (.ireturn, 1) := by decide +kernel
theorem dX7_best_0 : decode cX7_best 0 = .ok (.aload_n 0, 1) := by decide +kernel
theorem dX7_best_1 : decode cX7_best 1 = .ok (.getfield 19, 3) := by decide +kernel
theorem dX7_best_4 : decode cX7_best 4 = .ok (.invokevirtual 198, 3) := by decide +kernel
theorem dX7_best_7 : decode cX7_best 7 = .ok (.ifCond .ne 6, 3) := by decide +kernel
theorem dX7_best_10 : decode cX7_best 10 = .ok (.bipush (-2), 2) := by decide +kernel
theorem dX7_best_12 : decode cX7_best 12 = .ok (.ireturn, 1) := by decide +kernel
theorem dX7_best_13 : decode cX7_best 13 = .ok (.aload_n 0, 1) := by decide +kernel
theorem dX7_best_14 : decode cX7_best 14 = .ok (.getfield 41, 3) := by decide +kernel
theorem dX7_best_17 : decode cX7_best 17 = .ok (.aload_n 0, 1) := by decide +kernel
theorem dX7_best_18 : decode cX7_best 18 = .ok (.getfield 19, 3) := by decide +kernel
theorem dX7_best_21 : decode cX7_best 21 = .ok (.getfield 168, 3) := by decide +kernel
theorem dX7_best_24 : decode cX7_best 24 = .ok (.invokevirtual 192, 3) := by decide +kernel
theorem dX7_best_27 : decode cX7_best 27 = .ok (.invokestatic 271, 3) := by decide +kernel
theorem dX7_best_30 : decode cX7_best 30 = .ok (.istore_n 1, 1) := by decide +kernel
theorem dX7_best_31 : decode cX7_best 31 = .ok (.iconst (-1), 1) := by decide +kernel
theorem dX7_best_32 : decode cX7_best 32 = .ok (.istore_n 2, 1) := by decide +kernel
theorem dX7_best_33 : decode cX7_best 33 = .ok (.iconst 0, 1) := by decide +kernel
theorem dX7_best_34 : decode cX7_best 34 = .ok (.istore_n 3, 1) := by decide +kernel
theorem dX7_best_35 : decode cX7_best 35 = .ok (.iload_n 3, 1) := by decide +kernel
theorem dX7_best_36 : decode cX7_best 36 = .ok (.aload_n 0, 1) := by decide +kernel
theorem dX7_best_37 : decode cX7_best 37 = .ok (.getfield 19, 3) := by decide +kernel
theorem dX7_best_40 : decode cX7_best 40 = .ok (.getfield 219, 3) := by decide +kernel
theorem dX7_best_43 : decode cX7_best 43 = .ok (.if_icmp .ge 75, 3) := by decide +kernel
theorem dX7_best_46 : decode cX7_best 46 = .ok (.iconst 0, 1) := by decide +kernel
theorem dX7_best_47 : decode cX7_best 47 = .ok (.istore 4, 2) := by decide +kernel
theorem dX7_best_49 : decode cX7_best 49 = .ok (.iload 4, 2) := by decide +kernel
theorem dX7_best_51 : decode cX7_best 51 = .ok (.aload_n 0, 1) := by decide +kernel
theorem dX7_best_52 : decode cX7_best 52 = .ok (.getfield 19, 3) := by decide +kernel
theorem dX7_best_55 : decode cX7_best 55 = .ok (.getfield 109, 3) := by decide +kernel
theorem dX7_best_58 : decode cX7_best 58 = .ok (.iload_n 3, 1) := by decide +kernel
theorem dX7_best_59 : decode cX7_best 59 = .ok (.iaload, 1) := by decide +kernel
theorem dX7_best_60 : decode cX7_best 60 = .ok (.if_icmp .ge 52, 3) := by decide +kernel
theorem dX7_best_63 : decode cX7_best 63 = .ok (.aload_n 0, 1) := by decide +kernel
theorem dX7_best_64 : decode cX7_best 64 = .ok (.iload_n 3, 1) := by decide +kernel
theorem dX7_best_65 : decode cX7_best 65 = .ok (.iload 4, 2) := by decide +kernel
theorem dX7_best_67 : decode cX7_best 67 = .ok (.invokevirtual 267, 3) := by decide +kernel
theorem dX7_best_70 : decode cX7_best 70 = .ok (.aload_n 0, 1) := by decide +kernel
theorem dX7_best_71 : decode cX7_best 71 = .ok (.getfield 45, 3) := by decide +kernel
theorem dX7_best_74 : decode cX7_best 74 = .ok (.aload_n 0, 1) := by decide +kernel
theorem dX7_best_75 : decode cX7_best 75 = .ok (.getfield 19, 3) := by decide +kernel
theorem dX7_best_78 : decode cX7_best 78 = .ok (.getfield 168, 3) := by decide +kernel
theorem dX7_best_81 : decode cX7_best 81 = .ok (.invokevirtual 192, 3) := by decide +kernel
theorem dX7_best_84 : decode cX7_best 84 = .ok (.invokestatic 271, 3) := by decide +kernel
theorem dX7_best_87 : decode cX7_best 87 = .ok (.istore 5, 2) := by decide +kernel
theorem dX7_best_89 : decode cX7_best 89 = .ok (.iload 5, 2) := by decide +kernel
theorem dX7_best_91 : decode cX7_best 91 = .ok (.iload_n 1, 1) := by decide +kernel
theorem dX7_best_92 : decode cX7_best 92 = .ok (.if_icmp .le 14, 3) := by decide +kernel
theorem dX7_best_95 : decode cX7_best 95 = .ok (.iload 5, 2) := by decide +kernel
theorem dX7_best_97 : decode cX7_best 97 = .ok (.istore_n 1, 1) := by decide +kernel
theorem dX7_best_98 : decode cX7_best 98 = .ok (.bipush 10, 2) := by decide +kernel
theorem dX7_best_100 : decode cX7_best 100 = .ok (.iload_n 3, 1) := by decide +kernel
theorem dX7_best_101 : decode cX7_best 101 = .ok (.imul, 1) := by decide +kernel
theorem dX7_best_102 : decode cX7_best 102 = .ok (.iload 4, 2) := by decide +kernel
theorem dX7_best_104 : decode cX7_best 104 = .ok (.iadd, 1) := by decide +kernel
theorem dX7_best_105 : decode cX7_best 105 = .ok (.istore_n 2, 1) := by decide +kernel
theorem dX7_best_106 : decode cX7_best 106 = .ok (.iinc 4 1, 3) := by decide +kernel
theorem dX7_best_109 : decode cX7_best 109 = .ok (.goto (-60), 3) := by decide +kernel
theorem dX7_best_112 : decode cX7_best 112 = .ok (.iinc 3 1, 3) := by decide +kernel
theorem dX7_best_115 : decode cX7_best 115 = .ok (.goto (-80), 3) := by decide +kernel
theorem dX7_best_118 : decode cX7_best 118 = .ok (.iload_n 2, 1) := by decide +kernel
theorem dX7_best_119 : decode cX7_best 119 = .ok (.ireturn, 1) := by decide +kernel
theorem dX7_crowds_0 : decode cX7_crowds 0 = .ok (.aload_n 0, 1) := by decide +kernel
theorem dX7_crowds_1 : decode cX7_crowds 1 = .ok (.getfield 19, 3) := by decide +kernel
theorem dX7_crowds_4 : decode cX7_crowds 4 = .ok (.invokevirtual 198, 3) := by decide +kernel
theorem dX7_crowds_7 : decode cX7_crowds 7 = .ok (.ifCond .ne 6, 3) := by decide +kernel
theorem dX7_crowds_10 : decode cX7_crowds 10 = .ok (.bipush (-2), 2) := by decide +kernel
theorem dX7_crowds_12 : decode cX7_crowds 12 = .ok (.ireturn, 1) := by decide +kernel
theorem dX7_crowds_13 : decode cX7_crowds 13 = .ok (.iconst (-1), 1) := by decide +kernel
theorem dX7_crowds_14 : decode cX7_crowds 14 = .ok (.istore_n 1, 1) := by decide +kernel
theorem dX7_crowds_15 : decode cX7_crowds 15 = .ok (.iconst (-1), 1) := by decide +kernel
theorem dX7_crowds_16 : decode cX7_crowds 16 = .ok (.istore_n 2, 1) := by decide +kernel
theorem dX7_crowds_17 : decode cX7_crowds 17 = .ok (.iconst 0, 1) := by decide +kernel
theorem dX7_crowds_18 : decode cX7_crowds 18 = .ok (.istore_n 3, 1) := by decide +kernel
theorem dX7_crowds_19 : decode cX7_crowds 19 = .ok (.iload_n 3, 1) := by decide +kernel
theorem dX7_crowds_20 : decode cX7_crowds 20 = .ok (.aload_n 0, 1) := by decide +kernel
theorem dX7_crowds_21 : decode cX7_crowds 21 = .ok (.getfield 19, 3) := by decide +kernel
theorem dX7_crowds_24 : decode cX7_crowds 24 = .ok (.getfield 276, 3) := by decide +kernel
theorem dX7_crowds_27 : decode cX7_crowds 27 = .ok (.if_icmp .ge 100, 3) := by decide +kernel
theorem dX7_crowds_30 : decode cX7_crowds 30 = .ok (.iconst 1, 1) := by decide +kernel
theorem dX7_crowds_31 : decode cX7_crowds 31 = .ok (.iload_n 3, 1) := by decide +kernel
theorem dX7_crowds_32 : decode cX7_crowds 32 = .ok (.ishl, 1) := by decide +kernel
theorem dX7_crowds_33 : decode cX7_crowds 33 = .ok (.iconst (-1), 1) := by decide +kernel
theorem dX7_crowds_34 : decode cX7_crowds 34 = .ok (.ixor, 1) := by decide +kernel
theorem dX7_crowds_35 : decode cX7_crowds 35 = .ok (.istore 4, 2) := by decide +kernel
theorem dX7_crowds_37 : decode cX7_crowds 37 = .ok (.aload_n 0, 1) := by decide +kernel
theorem dX7_crowds_38 : decode cX7_crowds 38 = .ok (.getfield 41, 3) := by decide +kernel
theorem dX7_crowds_41 : decode cX7_crowds 41 = .ok (.aload_n 0, 1) := by decide +kernel
theorem dX7_crowds_42 : decode cX7_crowds 42 = .ok (.getfield 19, 3) := by decide +kernel
theorem dX7_crowds_45 : decode cX7_crowds 45 = .ok (.getfield 168, 3) := by decide +kernel
theorem dX7_crowds_48 : decode cX7_crowds 48 = .ok (.invokevirtual 192, 3) := by decide +kernel
theorem dX7_crowds_51 : decode cX7_crowds 51 = .ok (.iload 4, 2) := by decide +kernel
theorem dX7_crowds_53 : decode cX7_crowds 53 = .ok (.iand, 1) := by decide +kernel
theorem dX7_crowds_54 : decode cX7_crowds 54 = .ok (.invokestatic 271, 3) := by decide +kernel
theorem dX7_crowds_57 : decode cX7_crowds 57 = .ok (.istore 5, 2) := by decide +kernel
theorem dX7_crowds_59 : decode cX7_crowds 59 = .ok (.aload_n 0, 1) := by decide +kernel
theorem dX7_crowds_60 : decode cX7_crowds 60 = .ok (.getfield 45, 3) := by decide +kernel
theorem dX7_crowds_63 : decode cX7_crowds 63 = .ok (.invokevirtual 279, 3) := by decide +kernel
theorem dX7_crowds_66 : decode cX7_crowds 66 = .ok (.aload_n 0, 1) := by decide +kernel
theorem dX7_crowds_67 : decode cX7_crowds 67 = .ok (.getfield 45, 3) := by decide +kernel
theorem dX7_crowds_70 : decode cX7_crowds 70 = .ok (.iload_n 3, 1) := by decide +kernel
theorem dX7_crowds_71 : decode cX7_crowds 71 = .ok (.invokevirtual 282, 3) := by decide +kernel
theorem dX7_crowds_74 : decode cX7_crowds 74 = .ok (.aload_n 0, 1) := by decide +kernel
theorem dX7_crowds_75 : decode cX7_crowds 75 = .ok (.getfield 45, 3) := by decide +kernel
theorem dX7_crowds_78 : decode cX7_crowds 78 = .ok (.invokevirtual 285, 3) := by decide +kernel
theorem dX7_crowds_81 : decode cX7_crowds 81 = .ok (.aload_n 0, 1) := by decide +kernel
theorem dX7_crowds_82 : decode cX7_crowds 82 = .ok (.getfield 45, 3) := by decide +kernel
theorem dX7_crowds_85 : decode cX7_crowds 85 = .ok (.aload_n 0, 1) := by decide +kernel
theorem dX7_crowds_86 : decode cX7_crowds 86 = .ok (.getfield 19, 3) := by decide +kernel
theorem dX7_crowds_89 : decode cX7_crowds 89 = .ok (.getfield 168, 3) := by decide +kernel
theorem dX7_crowds_92 : decode cX7_crowds 92 = .ok (.invokevirtual 192, 3) := by decide +kernel
theorem dX7_crowds_95 : decode cX7_crowds 95 = .ok (.iload 4, 2) := by decide +kernel
theorem dX7_crowds_97 : decode cX7_crowds 97 = .ok (.iand, 1) := by decide +kernel
theorem dX7_crowds_98 : decode cX7_crowds 98 = .ok (.invokestatic 271, 3) := by decide +kernel
theorem dX7_crowds_101 : decode cX7_crowds 101 = .ok (.istore 6, 2) := by decide +kernel
theorem dX7_crowds_103 : decode cX7_crowds 103 = .ok (.iload 6, 2) := by decide +kernel
theorem dX7_crowds_105 : decode cX7_crowds 105 = .ok (.iload 5, 2) := by decide +kernel
theorem dX7_crowds_107 : decode cX7_crowds 107 = .ok (.if_icmp .le 14, 3) := by decide +kernel
theorem dX7_crowds_110 : decode cX7_crowds 110 = .ok (.iload 6, 2) := by decide +kernel
theorem dX7_crowds_112 : decode cX7_crowds 112 = .ok (.iload_n 1, 1) := by decide +kernel
theorem dX7_crowds_113 : decode cX7_crowds 113 = .ok (.if_icmp .le 8, 3) := by decide +kernel
theorem dX7_crowds_116 : decode cX7_crowds 116 = .ok (.iload 6, 2) := by decide +kernel
theorem dX7_crowds_118 : decode cX7_crowds 118 = .ok (.istore_n 1, 1) := by decide +kernel
theorem dX7_crowds_119 : decode cX7_crowds 119 = .ok (.iload_n 3, 1) := by decide +kernel
theorem dX7_crowds_120 : decode cX7_crowds 120 = .ok (.istore_n 2, 1) := by decide +kernel
theorem dX7_crowds_121 : decode cX7_crowds 121 = .ok (.iinc 3 1, 3) := by decide +kernel
theorem dX7_crowds_124 : decode cX7_crowds 124 = .ok (.goto (-105), 3) := by decide +kernel
theorem dX7_crowds_127 : decode cX7_crowds 127 = .ok (.iload_n 2, 1) := by decide +kernel
theorem dX7_crowds_128 : decode cX7_crowds 128 = .ok (.ireturn, 1) := by decide +kernel
theorem dX7_by_0 : decode cX7_by 0 = .ok (.aload_n 0, 1) := by decide +kernel
theorem dX7_by_1 : decode cX7_by 1 = .ok (.getfield 19, 3) := by decide +kernel
theorem dX7_by_4 : decode cX7_by 4 = .ok (.invokevirtual 198, 3) := by decide +kernel
theorem dX7_by_7 : decode cX7_by 7 = .ok (.ifCond .eq 12, 3) := by decide +kernel
theorem dX7_by_10 : decode cX7_by 10 = .ok (.iload_n 1, 1) := by decide +kernel
theorem dX7_by_11 : decode cX7_by 11 = .ok (.ifCond .lt 8, 3) := by decide +kernel
theorem dX7_by_14 : decode cX7_by 14 = .ok (.iload_n 1, 1) := by decide +kernel
theorem dX7_by_15 : decode cX7_by 15 = .ok (.iconst 3, 1) := by decide +kernel
theorem dX7_by_16 : decode cX7_by 16 = .ok (.if_icmp .le 6, 3) := by decide +kernel
theorem dX7_by_19 : decode cX7_by 19 = .ok (.bipush (-2), 2) := by decide +kernel
theorem dX7_by_21 : decode cX7_by 21 = .ok (.ireturn, 1) := by decide +kernel
theorem dX7_by_22 : decode cX7_by 22 = .ok (.aload_n 0, 1) := by decide +kernel
theorem dX7_by_23 : decode cX7_by 23 = .ok (.iload_n 1, 1) := by decide +kernel
theorem dX7_by_24 : decode cX7_by 24 = .ok (.invokevirtual 303, 3) := by decide +kernel
theorem dX7_by_27 : decode cX7_by 27 = .ok (.aload_n 0, 1) := by decide +kernel
theorem dX7_by_28 : decode cX7_by 28 = .ok (.getfield 45, 3) := by decide +kernel
theorem dX7_by_31 : decode cX7_by 31 = .ok (.aload_n 0, 1) := by decide +kernel
theorem dX7_by_32 : decode cX7_by 32 = .ok (.getfield 19, 3) := by decide +kernel
theorem dX7_by_35 : decode cX7_by 35 = .ok (.getfield 168, 3) := by decide +kernel
theorem dX7_by_38 : decode cX7_by 38 = .ok (.invokevirtual 192, 3) := by decide +kernel
theorem dX7_by_41 : decode cX7_by 41 = .ok (.ireturn, 1) := by decide +kernel
theorem dX7_law_0 : decode cX7_law 0 = .ok (.aload_n 0, 1) := by decide +kernel
theorem dX7_law_1 : decode cX7_law 1 = .ok (.getfield 19, 3) := by decide +kernel
theorem dX7_law_4 : decode cX7_law 4 = .ok (.invokevirtual 198, 3) := by decide +kernel
theorem dX7_law_7 : decode cX7_law 7 = .ok (.ifCond .ne 6, 3) := by decide +kernel
theorem dX7_law_10 : decode cX7_law 10 = .ok (.bipush (-2), 2) := by decide +kernel
theorem dX7_law_12 : decode cX7_law 12 = .ok (.ireturn, 1) := by decide +kernel
theorem dX7_law_13 : decode cX7_law 13 = .ok (.iconst (-1), 1) := by decide +kernel
theorem dX7_law_14 : decode cX7_law 14 = .ok (.istore_n 1, 1) := by decide +kernel
theorem dX7_law_15 : decode cX7_law 15 = .ok (.iconst (-1), 1) := by decide +kernel
theorem dX7_law_16 : decode cX7_law 16 = .ok (.istore_n 2, 1) := by decide +kernel
theorem dX7_law_17 : decode cX7_law 17 = .ok (.iconst 0, 1) := by decide +kernel
theorem dX7_law_18 : decode cX7_law 18 = .ok (.istore_n 3, 1) := by decide +kernel
theorem dX7_law_19 : decode cX7_law 19 = .ok (.iload_n 3, 1) := by decide +kernel
theorem dX7_law_20 : decode cX7_law 20 = .ok (.iconst 3, 1) := by decide +kernel
theorem dX7_law_21 : decode cX7_law 21 = .ok (.if_icmp .gt 44, 3) := by decide +kernel
theorem dX7_law_24 : decode cX7_law 24 = .ok (.aload_n 0, 1) := by decide +kernel
theorem dX7_law_25 : decode cX7_law 25 = .ok (.iload_n 3, 1) := by decide +kernel
theorem dX7_law_26 : decode cX7_law 26 = .ok (.invokevirtual 303, 3) := by decide +kernel
theorem dX7_law_29 : decode cX7_law 29 = .ok (.aload_n 0, 1) := by decide +kernel
theorem dX7_law_30 : decode cX7_law 30 = .ok (.getfield 45, 3) := by decide +kernel
theorem dX7_law_33 : decode cX7_law 33 = .ok (.aload_n 0, 1) := by decide +kernel
theorem dX7_law_34 : decode cX7_law 34 = .ok (.getfield 19, 3) := by decide +kernel
theorem dX7_law_37 : decode cX7_law 37 = .ok (.getfield 168, 3) := by decide +kernel
theorem dX7_law_40 : decode cX7_law 40 = .ok (.invokevirtual 192, 3) := by decide +kernel
theorem dX7_law_43 : decode cX7_law 43 = .ok (.invokestatic 271, 3) := by decide +kernel
theorem dX7_law_46 : decode cX7_law 46 = .ok (.istore 4, 2) := by decide +kernel
theorem dX7_law_48 : decode cX7_law 48 = .ok (.iload 4, 2) := by decide +kernel
theorem dX7_law_50 : decode cX7_law 50 = .ok (.iload_n 1, 1) := by decide +kernel
theorem dX7_law_51 : decode cX7_law 51 = .ok (.if_icmp .le 8, 3) := by decide +kernel
theorem dX7_law_54 : decode cX7_law 54 = .ok (.iload 4, 2) := by decide +kernel
theorem dX7_law_56 : decode cX7_law 56 = .ok (.istore_n 1, 1) := by decide +kernel
theorem dX7_law_57 : decode cX7_law 57 = .ok (.iload_n 3, 1) := by decide +kernel
theorem dX7_law_58 : decode cX7_law 58 = .ok (.istore_n 2, 1) := by decide +kernel
theorem dX7_law_59 : decode cX7_law 59 = .ok (.iinc 3 1, 3) := by decide +kernel
theorem dX7_law_62 : decode cX7_law 62 = .ok (.goto (-43), 3) := by decide +kernel
theorem dX7_law_65 : decode cX7_law 65 = .ok (.iload_n 2, 1) := by decide +kernel
theorem dX7_law_66 : decode cX7_law 66 = .ok (.ireturn, 1) := by decide +kernel
theorem dX7_worth_0 : decode cX7_worth 0 = .ok (.aload_n 0, 1) := by decide +kernel
theorem dX7_worth_1 : decode cX7_worth 1 = .ok (.getfield 19, 3) := by decide +kernel
theorem dX7_worth_4 : decode cX7_worth 4 = .ok (.invokevirtual 198, 3) := by decide +kernel
theorem dX7_worth_7 : decode cX7_worth 7 = .ok (.ifCond .eq 20, 3) := by decide +kernel
theorem dX7_worth_10 : decode cX7_worth 10 = .ok (.iload_n 1, 1) := by decide +kernel
theorem dX7_worth_11 : decode cX7_worth 11 = .ok (.ifCond .lt 16, 3) := by decide +kernel
theorem dX7_worth_14 : decode cX7_worth 14 = .ok (.iload_n 1, 1) := by decide +kernel
theorem dX7_worth_15 : decode cX7_worth 15 = .ok (.iconst 1, 1) := by decide +kernel
theorem dX7_worth_16 : decode cX7_worth 16 = .ok (.aload_n 0, 1) := by decide +kernel
theorem dX7_worth_17 : decode cX7_worth 17 = .ok (.getfield 19, 3) := by decide +kernel
theorem dX7_worth_20 : decode cX7_worth 20 = .ok (.getfield 219, 3) := by decide +kernel
theorem dX7_worth_23 : decode cX7_worth 23 = .ok (.ishl, 1) := by decide +kernel
theorem dX7_worth_24 : decode cX7_worth 24 = .ok (.if_icmp .lt 6, 3) := by decide +kernel
theorem dX7_worth_27 : decode cX7_worth 27 = .ok (.bipush (-2), 2) := by decide +kernel
theorem dX7_worth_29 : decode cX7_worth 29 = .ok (.ireturn, 1) := by decide +kernel
theorem dX7_worth_30 : decode cX7_worth 30 = .ok (.aload_n 0, 1) := by decide +kernel
theorem dX7_worth_31 : decode cX7_worth 31 = .ok (.iload_n 1, 1) := by decide +kernel
theorem dX7_worth_32 : decode cX7_worth 32 = .ok (.invokevirtual 310, 3) := by decide +kernel
theorem dX7_worth_35 : decode cX7_worth 35 = .ok (.ireturn, 1) := by decide +kernel
theorem dX7_runPointed_0 : decode cX7_runPointed 0 = .ok (.aload_n 0, 1) := by decide +kernel
theorem dX7_runPointed_1 : decode cX7_runPointed 1 = .ok (.getfield 45, 3) := by decide +kernel
theorem dX7_runPointed_4 : decode cX7_runPointed 4 = .ok (.invokevirtual 279, 3) := by decide +kernel
theorem dX7_runPointed_7 : decode cX7_runPointed 7 = .ok (.aload_n 0, 1) := by decide +kernel
theorem dX7_runPointed_8 : decode cX7_runPointed 8 = .ok (.getfield 45, 3) := by decide +kernel
theorem dX7_runPointed_11 : decode cX7_runPointed 11 = .ok (.iload_n 1, 1) := by decide +kernel
theorem dX7_runPointed_12 : decode cX7_runPointed 12 = .ok (.iload_n 2, 1) := by decide +kernel
theorem dX7_runPointed_13 : decode cX7_runPointed 13 = .ok (.invokevirtual 422, 3) := by decide +kernel
theorem dX7_runPointed_16 : decode cX7_runPointed 16 = .ok (.aload_n 0, 1) := by decide +kernel
theorem dX7_runPointed_17 : decode cX7_runPointed 17 = .ok (.getfield 45, 3) := by decide +kernel
theorem dX7_runPointed_20 : decode cX7_runPointed 20 = .ok (.invokevirtual 285, 3) := by decide +kernel
theorem dX7_runPointed_23 : decode cX7_runPointed 23 = .ok (.return_, 1) := by decide +kernel
theorem dX7_runByLaw_0 : decode cX7_runByLaw 0 = .ok (.aload_n 0, 1) := by decide +kernel
theorem dX7_runByLaw_1 : decode cX7_runByLaw 1 = .ok (.getfield 45, 3) := by decide +kernel
theorem dX7_runByLaw_4 : decode cX7_runByLaw 4 = .ok (.invokevirtual 279, 3) := by decide +kernel
theorem dX7_runByLaw_7 : decode cX7_runByLaw 7 = .ok (.aload_n 0, 1) := by decide +kernel
theorem dX7_runByLaw_8 : decode cX7_runByLaw 8 = .ok (.getfield 45, 3) := by decide +kernel
theorem dX7_runByLaw_11 : decode cX7_runByLaw 11 = .ok (.iload_n 1, 1) := by decide +kernel
theorem dX7_runByLaw_12 : decode cX7_runByLaw 12 = .ok (.putfield 425, 3) := by decide +kernel
theorem dX7_runByLaw_15 : decode cX7_runByLaw 15 = .ok (.aload_n 0, 1) := by decide +kernel
theorem dX7_runByLaw_16 : decode cX7_runByLaw 16 = .ok (.getfield 45, 3) := by decide +kernel
theorem dX7_runByLaw_19 : decode cX7_runByLaw 19 = .ok (.invokevirtual 285, 3) := by decide +kernel
theorem dX7_runByLaw_22 : decode cX7_runByLaw 22 = .ok (.return_, 1) := by decide +kernel
theorem dX7_insideByFog_0 : decode cX7_insideByFog 0 = .ok (.aload_n 0, 1) := by decide +kernel
theorem dX7_insideByFog_1 : decode cX7_insideByFog 1 = .ok (.getfield 45, 3) := by decide +kernel
theorem dX7_insideByFog_4 : decode cX7_insideByFog 4 = .ok (.invokevirtual 279, 3) := by decide +kernel
theorem dX7_insideByFog_7 : decode cX7_insideByFog 7 = .ok (.aload_n 0, 1) := by decide +kernel
theorem dX7_insideByFog_8 : decode cX7_insideByFog 8 = .ok (.getfield 45, 3) := by decide +kernel
theorem dX7_insideByFog_11 : decode cX7_insideByFog 11 = .ok (.iload_n 1, 1) := by decide +kernel
theorem dX7_insideByFog_12 : decode cX7_insideByFog 12 = .ok (.putfield 426, 3) := by decide +kernel
theorem dX7_insideByFog_15 : decode cX7_insideByFog 15 = .ok (.aload_n 0, 1) := by decide +kernel
theorem dX7_insideByFog_16 : decode cX7_insideByFog 16 = .ok (.getfield 45, 3) := by decide +kernel
theorem dX7_insideByFog_19 : decode cX7_insideByFog 19 = .ok (.invokevirtual 285, 3) := by decide +kernel
theorem dX7_insideByFog_22 : decode cX7_insideByFog 22 = .ok (.aload_n 0, 1) := by decide +kernel
theorem dX7_insideByFog_23 : decode cX7_insideByFog 23 = .ok (.getfield 45, 3) := by decide +kernel
theorem dX7_insideByFog_26 : decode cX7_insideByFog 26 = .ok (.aload_n 0, 1) := by decide +kernel
theorem dX7_insideByFog_27 : decode cX7_insideByFog 27 = .ok (.getfield 19, 3) := by decide +kernel
theorem dX7_insideByFog_30 : decode cX7_insideByFog 30 = .ok (.getfield 168, 3) := by decide +kernel
theorem dX7_insideByFog_33 : decode cX7_insideByFog 33 = .ok (.invokevirtual 192, 3) := by decide +kernel
theorem dX7_insideByFog_36 : decode cX7_insideByFog 36 = .ok (.ireturn, 1) := by decide +kernel
theorem dX7_worthOf_0 : decode cX7_worthOf 0 = .ok (.aload_n 0, 1) := by decide +kernel
theorem dX7_worthOf_1 : decode cX7_worthOf 1 = .ok (.getfield 45, 3) := by decide +kernel
theorem dX7_worthOf_4 : decode cX7_worthOf 4 = .ok (.invokevirtual 279, 3) := by decide +kernel
theorem dX7_worthOf_7 : decode cX7_worthOf 7 = .ok (.aload_n 0, 1) := by decide +kernel
theorem dX7_worthOf_8 : decode cX7_worthOf 8 = .ok (.getfield 45, 3) := by decide +kernel
theorem dX7_worthOf_11 : decode cX7_worthOf 11 = .ok (.iload_n 1, 1) := by decide +kernel
theorem dX7_worthOf_12 : decode cX7_worthOf 12 = .ok (.putfield 429, 3) := by decide +kernel
theorem dX7_worthOf_15 : decode cX7_worthOf 15 = .ok (.aload_n 0, 1) := by decide +kernel
theorem dX7_worthOf_16 : decode cX7_worthOf 16 = .ok (.getfield 45, 3) := by decide +kernel
theorem dX7_worthOf_19 : decode cX7_worthOf 19 = .ok (.invokevirtual 285, 3) := by decide +kernel
theorem dX7_worthOf_22 : decode cX7_worthOf 22 = .ok (.aload_n 0, 1) := by decide +kernel
theorem dX7_worthOf_23 : decode cX7_worthOf 23 = .ok (.getfield 45, 3) := by decide +kernel
theorem dX7_worthOf_26 : decode cX7_worthOf 26 = .ok (.aload_n 0, 1) := by decide +kernel
theorem dX7_worthOf_27 : decode cX7_worthOf 27 = .ok (.getfield 19, 3) := by decide +kernel
theorem dX7_worthOf_30 : decode cX7_worthOf 30 = .ok (.getfield 168, 3) := by decide +kernel
theorem dX7_worthOf_33 : decode cX7_worthOf 33 = .ok (.invokevirtual 192, 3) := by decide +kernel
theorem dX7_worthOf_36 : decode cX7_worthOf 36 = .ok (.invokestatic 271, 3) := by decide +kernel
theorem dX7_worthOf_39 : decode cX7_worthOf 39 = .ok (.ireturn, 1) := by decide +kernel
theorem dX7_gain_0 : decode cX7_gain 0 = .ok (.aload_n 0, 1) := by decide +kernel
theorem dX7_gain_1 : decode cX7_gain 1 = .ok (.getfield 45, 3) := by decide +kernel
theorem dX7_gain_4 : decode cX7_gain 4 = .ok (.invokevirtual 279, 3) := by decide +kernel
theorem dX7_gain_7 : decode cX7_gain 7 = .ok (.aload_n 0, 1) := by decide +kernel
theorem dX7_gain_8 : decode cX7_gain 8 = .ok (.getfield 45, 3) := by decide +kernel
theorem dX7_gain_11 : decode cX7_gain 11 = .ok (.getfield 432, 3) := by decide +kernel
theorem dX7_gain_14 : decode cX7_gain 14 = .ok (.iload_n 1, 1) := by decide +kernel
theorem dX7_gain_15 : decode cX7_gain 15 = .ok (.dup2, 1) := by decide +kernel
theorem dX7_gain_16 : decode cX7_gain 16 = .ok (.iaload, 1) := by decide +kernel
theorem dX7_gain_17 : decode cX7_gain 17 = .ok (.iload_n 3, 1) := by decide +kernel
theorem dX7_gain_18 : decode cX7_gain 18 = .ok (.iadd, 1) := by decide +kernel
theorem dX7_gain_19 : decode cX7_gain 19 = .ok (.iastore, 1) := by decide +kernel
theorem dX7_gain_20 : decode cX7_gain 20 = .ok (.aload_n 0, 1) := by decide +kernel
theorem dX7_gain_21 : decode cX7_gain 21 = .ok (.getfield 45, 3) := by decide +kernel
theorem dX7_gain_24 : decode cX7_gain 24 = .ok (.getfield 432, 3) := by decide +kernel
theorem dX7_gain_27 : decode cX7_gain 27 = .ok (.iload_n 2, 1) := by decide +kernel
theorem dX7_gain_28 : decode cX7_gain 28 = .ok (.dup2, 1) := by decide +kernel
theorem dX7_gain_29 : decode cX7_gain 29 = .ok (.iaload, 1) := by decide +kernel
theorem dX7_gain_30 : decode cX7_gain 30 = .ok (.iload 4, 2) := by decide +kernel
theorem dX7_gain_32 : decode cX7_gain 32 = .ok (.iadd, 1) := by decide +kernel
theorem dX7_gain_33 : decode cX7_gain 33 = .ok (.iastore, 1) := by decide +kernel
theorem dX7_gain_34 : decode cX7_gain 34 = .ok (.aload_n 0, 1) := by decide +kernel
theorem dX7_gain_35 : decode cX7_gain 35 = .ok (.getfield 45, 3) := by decide +kernel
theorem dX7_gain_38 : decode cX7_gain 38 = .ok (.invokevirtual 285, 3) := by decide +kernel
theorem dX7_gain_41 : decode cX7_gain 41 = .ok (.aload_n 0, 1) := by decide +kernel
theorem dX7_gain_42 : decode cX7_gain 42 = .ok (.getfield 45, 3) := by decide +kernel
theorem dX7_gain_45 : decode cX7_gain 45 = .ok (.iload_n 1, 1) := by decide +kernel
theorem dX7_gain_46 : decode cX7_gain 46 = .ok (.invokevirtual 165, 3) := by decide +kernel
theorem dX7_gain_49 : decode cX7_gain 49 = .ok (.istore 5, 2) := by decide +kernel
theorem dX7_gain_51 : decode cX7_gain 51 = .ok (.iload 5, 2) := by decide +kernel
theorem dX7_gain_53 : decode cX7_gain 53 = .ok (.iconst (-1), 1) := by decide +kernel
theorem dX7_gain_54 : decode cX7_gain 54 = .ok (.if_icmp .ne 7, 3) := by decide +kernel
theorem dX7_gain_57 : decode cX7_gain 57 = .ok (.iconst 0, 1) := by decide +kernel
theorem dX7_gain_58 : decode cX7_gain 58 = .ok (.goto 8, 3) := by decide +kernel
theorem dX7_gain_61 : decode cX7_gain 61 = .ok (.bipush 20, 2) := by decide +kernel
theorem dX7_gain_63 : decode cX7_gain 63 = .ok (.iload 5, 2) := by decide +kernel
theorem dX7_gain_65 : decode cX7_gain 65 = .ok (.isub, 1) := by decide +kernel
theorem dX7_gain_66 : decode cX7_gain 66 = .ok (.iload_n 3, 1) := by decide +kernel
theorem dX7_gain_67 : decode cX7_gain 67 = .ok (.isub, 1) := by decide +kernel
theorem dX7_gain_68 : decode cX7_gain 68 = .ok (.ireturn, 1) := by decide +kernel
theorem wd317 : Cond.fieldLink RX7 45 RX7 "other" "LObligingPosts$Night;" ∈ tblG := gw2 30 (by decide +kernel) (by decide +kernel)
theorem fk_X7_45 : FLk RX7 45 7 6 (.object "ObligingPosts$Night") true := ⟨RX7, TX7, 12, tyX7, clX7, by decide, rfl, rfl, rfl, Or.inl wd317⟩
theorem wd318 : Cond.methodLink RX7 279 yX4_prepare ∈ tblG := gw3 11 (by decide +kernel) (by decide +kernel)
theorem wd319 : Cond.instanceMethod yX4_prepare ∈ tblG := gw3 12 (by decide +kernel) (by decide +kernel)
theorem wd320 : Cond.selects RX4 yX4_prepare yX4_prepare ∈ tblG := gw3 13 (by decide +kernel) (by decide +kernel)
theorem wd321 : Cond.code yX4_prepare cX4_prepare 1 none ∈ tblG := gw3 14 (by decide +kernel) (by decide +kernel)
theorem pl_X4_prepare : Plain yX4_prepare 0 := ⟨by decide, by decide, by decide +kernel⟩
theorem lk_X7_279 : LkV RX7 279 4 yX4_prepare cX4_prepare 1 none 0 := ⟨⟨TX4, 9, rfl⟩, wd318, wd319, wd320, wd48, wd321, pl_X4_prepare⟩
theorem wd322 : Cond.methodLink RX7 422 yX4_pointAtFirst ∈ tblG := gw5 2 (by decide +kernel) (by decide +kernel)
theorem wd323 : Cond.instanceMethod yX4_pointAtFirst ∈ tblG := gw5 3 (by decide +kernel) (by decide +kernel)
theorem wd324 : Cond.selects RX4 yX4_pointAtFirst yX4_pointAtFirst ∈ tblG := gw5 4 (by decide +kernel) (by decide +kernel)
theorem wd325 : Cond.code yX4_pointAtFirst cX4_pointAtFirst 3 none ∈ tblG := gw5 5 (by decide +kernel) (by decide +kernel)
theorem pl_X4_pointAtFirst : Plain yX4_pointAtFirst 2 := ⟨by decide, by decide, by decide +kernel⟩
theorem lk_X7_422 : LkV RX7 422 4 yX4_pointAtFirst cX4_pointAtFirst 3 none 2 := ⟨⟨TX4, 9, rfl⟩, wd322, wd323, wd324, wd48, wd325, pl_X4_pointAtFirst⟩
theorem wd326 : Cond.methodLink RX7 285 yX4_run ∈ tblG := gw3 16 (by decide +kernel) (by decide +kernel)
theorem wd327 : Cond.instanceMethod yX4_run ∈ tblG := gw3 17 (by decide +kernel) (by decide +kernel)
theorem wd328 : Cond.selects RX4 yX4_run yX4_run ∈ tblG := gw3 18 (by decide +kernel) (by decide +kernel)
theorem wd329 : Cond.code yX4_run cX4_run 2 none ∈ tblG := gw3 19 (by decide +kernel) (by decide +kernel)
theorem pl_X4_run : Plain yX4_run 0 := ⟨by decide, by decide, by decide +kernel⟩
theorem lk_X7_285 : LkV RX7 285 4 yX4_run cX4_run 2 none 0 := ⟨⟨TX4, 9, rfl⟩, wd326, wd327, wd328, wd48, wd329, pl_X4_run⟩
theorem fk_X7_425 : FLk RX7 425 4 1 (.int) false := ⟨RX4, TX4, 9, tyX4, clX4, by decide, rfl, rfl, rfl, Or.inr ⟨"ObligingPosts", List.mem_of_getElem? (i := 27) (by decide +kernel)⟩⟩
theorem fk_X7_426 : FLk RX7 426 4 3 (.int) false := ⟨RX4, TX4, 9, tyX4, clX4, by decide, rfl, rfl, rfl, Or.inr ⟨"ObligingPosts", List.mem_of_getElem? (i := 28) (by decide +kernel)⟩⟩
theorem fk_X7_429 : FLk RX7 429 4 2 (.int) false := ⟨RX4, TX4, 9, tyX4, clX4, by decide, rfl, rfl, rfl, Or.inr ⟨"ObligingPosts", List.mem_of_getElem? (i := 29) (by decide +kernel)⟩⟩
theorem wd330 : Cond.methodLink RX7 271 yJ6_bitCount_0f7a4 ∈ tblG := gw5 10 (by decide +kernel) (by decide +kernel)
theorem lk_X7_271 : LkS RX7 271 yJ6_bitCount_0f7a4 cJ6_bitCount_0f7a4 1 (some .int) 1 := ⟨wd330, wd67, wd68, wd69, pl_J6_bitCount_0f7a4⟩
theorem fk_X7_432 : FLk RX7 432 4 4 (.array .int) true := ⟨RX4, TX4, 9, tyX4, clX4, by decide, rfl, rfl, rfl, Or.inr ⟨"ObligingPosts", List.mem_of_getElem? (i := 30) (by decide +kernel)⟩⟩
theorem wd331 : Cond.methodLink RX7 303 yX7_runByLaw ∈ tblG := gw5 70 (by decide +kernel) (by decide +kernel)
theorem wd332 : Cond.instanceMethod yX7_runByLaw ∈ tblG := gw5 72 (by decide +kernel) (by decide +kernel)
theorem wd333 : Cond.selects RX7 yX7_runByLaw yX7_runByLaw ∈ tblG := gw0 38 (by decide +kernel) (by decide +kernel)
theorem wd334 : Cond.code yX7_runByLaw cX7_runByLaw 2 none ∈ tblG := gw5 73 (by decide +kernel) (by decide +kernel)
theorem pl_X7_runByLaw : Plain yX7_runByLaw 1 := ⟨by decide, by decide, by decide +kernel⟩
theorem lk_X7_303 : LkV RX7 303 7 yX7_runByLaw cX7_runByLaw 2 none 1 := ⟨⟨TX7, 12, rfl⟩, wd331, wd332, wd333, wd207, wd334, pl_X7_runByLaw⟩
theorem wd335 : Cond.methodLink RX7 310 yX7_worthOf ∈ tblG := gw5 86 (by decide +kernel) (by decide +kernel)
theorem wd336 : Cond.instanceMethod yX7_worthOf ∈ tblG := gw5 88 (by decide +kernel) (by decide +kernel)
theorem wd337 : Cond.selects RX7 yX7_worthOf yX7_worthOf ∈ tblG := gw0 39 (by decide +kernel) (by decide +kernel)
theorem wd338 : Cond.code yX7_worthOf cX7_worthOf 2 (some .int) ∈ tblG := gw5 89 (by decide +kernel) (by decide +kernel)
theorem pl_X7_worthOf : Plain yX7_worthOf 1 := ⟨by decide, by decide, by decide +kernel⟩
theorem lk_X7_310 : LkV RX7 310 7 yX7_worthOf cX7_worthOf 2 (some .int) 1 := ⟨⟨TX7, 12, rfl⟩, wd335, wd336, wd337, wd207, wd338, pl_X7_worthOf⟩
theorem wd339 : Cond.methodLink RX7 267 yX7_runPointed ∈ tblG := gw4 238 (by decide +kernel) (by decide +kernel)
theorem wd340 : Cond.instanceMethod yX7_runPointed ∈ tblG := gw5 0 (by decide +kernel) (by decide +kernel)
theorem wd341 : Cond.selects RX7 yX7_runPointed yX7_runPointed ∈ tblG := gw0 30 (by decide +kernel) (by decide +kernel)
theorem wd342 : Cond.code yX7_runPointed cX7_runPointed 3 none ∈ tblG := gw5 1 (by decide +kernel) (by decide +kernel)
theorem pl_X7_runPointed : Plain yX7_runPointed 2 := ⟨by decide, by decide, by decide +kernel⟩
theorem lk_X7_267 : LkV RX7 267 7 yX7_runPointed cX7_runPointed 3 none 2 := ⟨⟨TX7, 12, rfl⟩, wd339, wd340, wd341, wd207, wd342, pl_X7_runPointed⟩
theorem fk_X7_276 : FLk RX7 276 2 8 (.int) false := ⟨RX2, TX2, 16, tyX2, clX2, by decide, rfl, rfl, rfl, Or.inr ⟨"ObligingPosts", List.mem_of_getElem? (i := 14) (by decide +kernel)⟩⟩
theorem wd343 : Cond.methodLink RX7 282 yX4_neverComes ∈ tblG := gw5 15 (by decide +kernel) (by decide +kernel)
theorem wd344 : Cond.instanceMethod yX4_neverComes ∈ tblG := gw5 16 (by decide +kernel) (by decide +kernel)
theorem wd345 : Cond.selects RX4 yX4_neverComes yX4_neverComes ∈ tblG := gw5 17 (by decide +kernel) (by decide +kernel)
theorem wd346 : Cond.code yX4_neverComes cX4_neverComes 2 none ∈ tblG := gw5 18 (by decide +kernel) (by decide +kernel)
theorem pl_X4_neverComes : Plain yX4_neverComes 1 := ⟨by decide, by decide, by decide +kernel⟩
theorem lk_X7_282 : LkV RX7 282 4 yX4_neverComes cX4_neverComes 2 none 1 := ⟨⟨TX4, 9, rfl⟩, wd343, wd344, wd345, wd48, wd346, pl_X4_neverComes⟩
theorem wd347 : Cond.methodLink RX7 264 yX4_firstHourIn ∈ tblG := gw4 234 (by decide +kernel) (by decide +kernel)
theorem wd348 : Cond.instanceMethod yX4_firstHourIn ∈ tblG := gw4 235 (by decide +kernel) (by decide +kernel)
theorem wd349 : Cond.selects RX4 yX4_firstHourIn yX4_firstHourIn ∈ tblG := gw4 236 (by decide +kernel) (by decide +kernel)
theorem wd350 : Cond.code yX4_firstHourIn cX4_firstHourIn 4 (some .int) ∈ tblG := gw4 237 (by decide +kernel) (by decide +kernel)
theorem pl_X4_firstHourIn : Plain yX4_firstHourIn 2 := ⟨by decide, by decide, by decide +kernel⟩
theorem lk_X7_264 : LkV RX7 264 4 yX4_firstHourIn cX4_firstHourIn 4 (some .int) 2 := ⟨⟨TX4, 9, rfl⟩, wd347, wd348, wd349, wd48, wd350, pl_X4_firstHourIn⟩
