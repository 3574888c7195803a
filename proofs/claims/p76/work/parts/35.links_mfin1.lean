theorem dX8_share_0 : decode cX8_share 0 = .ok (.aload_n 0, 1) := by decide +kernel
theorem dX8_share_1 : decode cX8_share 1 = .ok (.invokevirtual 286, 3) := by decide +kernel
theorem dX8_share_4 : decode cX8_share 4 = .ok (.aload_n 0, 1) := by decide +kernel
theorem dX8_share_5 : decode cX8_share 5 = .ok (.iload_n 1, 1) := by decide +kernel
theorem dX8_share_6 : decode cX8_share 6 = .ok (.i2l, 1) := by decide +kernel
theorem dX8_share_7 : decode cX8_share 7 = .ok (.invokevirtual 112, 3) := by decide +kernel
theorem dX8_share_10 : decode cX8_share 10 = .ok (.ifCond .eq 13, 3) := by decide +kernel
theorem dX8_share_13 : decode cX8_share 13 = .ok (.iload_n 2, 1) := by decide +kernel
theorem dX8_share_14 : decode cX8_share 14 = .ok (.i2l, 1) := by decide +kernel
theorem dX8_share_15 : decode cX8_share 15 = .ok (.lconst 0, 1) := by decide +kernel
theorem dX8_share_16 : decode cX8_share 16 = .ok (.lconst 1, 1) := by decide +kernel
theorem dX8_share_17 : decode cX8_share 17 = .ok (.invokestatic 94, 3) := by decide +kernel
theorem dX8_share_20 : decode cX8_share 20 = .ok (.ifCond .ne 7, 3) := by decide +kernel
theorem dX8_share_23 : decode cX8_share 23 = .ok (.sipush (-1000), 3) := by decide +kernel
theorem dX8_share_26 : decode cX8_share 26 = .ok (.ireturn, 1) := by decide +kernel
theorem dX8_share_27 : decode cX8_share 27 = .ok (.aload_n 0, 1) := by decide +kernel
theorem dX8_share_28 : decode cX8_share 28 = .ok (.invokevirtual 98, 3) := by decide +kernel
theorem dX8_share_31 : decode cX8_share 31 = .ok (.istore_n 3, 1) := by decide +kernel
theorem dX8_share_32 : decode cX8_share 32 = .ok (.iconst 0, 1) := by decide +kernel
theorem dX8_share_33 : decode cX8_share 33 = .ok (.istore 4, 2) := by decide +kernel
theorem dX8_share_35 : decode cX8_share 35 = .ok (.iload 4, 2) := by decide +kernel
theorem dX8_share_37 : decode cX8_share 37 = .ok (.iconst 1, 1) := by decide +kernel
theorem dX8_share_38 : decode cX8_share 38 = .ok (.iload_n 3, 1) := by decide +kernel
theorem dX8_share_39 : decode cX8_share 39 = .ok (.ishl, 1) := by decide +kernel
theorem dX8_share_40 : decode cX8_share 40 = .ok (.if_icmp .ge 22, 3) := by decide +kernel
theorem dX8_share_43 : decode cX8_share 43 = .ok (.aload_n 0, 1) := by decide +kernel
theorem dX8_share_44 : decode cX8_share 44 = .ok (.getfield 73, 3) := by decide +kernel
theorem dX8_share_47 : decode cX8_share 47 = .ok (.iload 4, 2) := by decide +kernel
theorem dX8_share_49 : decode cX8_share 49 = .ok (.aload_n 0, 1) := by decide +kernel
theorem dX8_share_50 : decode cX8_share 50 = .ok (.iload 4, 2) := by decide +kernel
theorem dX8_share_52 : decode cX8_share 52 = .ok (.invokevirtual 436, 3) := by decide +kernel
theorem dX8_share_55 : decode cX8_share 55 = .ok (.iastore, 1) := by decide +kernel
theorem dX8_share_56 : decode cX8_share 56 = .ok (.iinc 4 1, 3) := by decide +kernel
theorem dX8_share_59 : decode cX8_share 59 = .ok (.goto (-24), 3) := by decide +kernel
theorem dX8_share_62 : decode cX8_share 62 = .ok (.lconst 0, 1) := by decide +kernel
theorem dX8_share_63 : decode cX8_share 63 = .ok (.lstore 4, 2) := by decide +kernel
theorem dX8_share_65 : decode cX8_share 65 = .ok (.iconst 0, 1) := by decide +kernel
theorem dX8_share_66 : decode cX8_share 66 = .ok (.istore 6, 2) := by decide +kernel
theorem dX8_share_68 : decode cX8_share 68 = .ok (.iload 6, 2) := by decide +kernel
theorem dX8_share_70 : decode cX8_share 70 = .ok (.iconst 1, 1) := by decide +kernel
theorem dX8_share_71 : decode cX8_share 71 = .ok (.iload_n 3, 1) := by decide +kernel
theorem dX8_share_72 : decode cX8_share 72 = .ok (.ishl, 1) := by decide +kernel
theorem dX8_share_73 : decode cX8_share 73 = .ok (.if_icmp .ge 67, 3) := by decide +kernel
theorem dX8_share_76 : decode cX8_share 76 = .ok (.iload 6, 2) := by decide +kernel
theorem dX8_share_78 : decode cX8_share 78 = .ok (.iload_n 1, 1) := by decide +kernel
theorem dX8_share_79 : decode cX8_share 79 = .ok (.invokestatic 266, 3) := by decide +kernel
theorem dX8_share_82 : decode cX8_share 82 = .ok (.ifCond .ne 52, 3) := by decide +kernel
theorem dX8_share_85 : decode cX8_share 85 = .ok (.lload 4, 2) := by decide +kernel
theorem dX8_share_87 : decode cX8_share 87 = .ok (.iload 6, 2) := by decide +kernel
theorem dX8_share_89 : decode cX8_share 89 = .ok (.invokestatic 334, 3) := by decide +kernel
theorem dX8_share_92 : decode cX8_share 92 = .ok (.invokestatic 447, 3) := by decide +kernel
theorem dX8_share_95 : decode cX8_share 95 = .ok (.i2l, 1) := by decide +kernel
theorem dX8_share_96 : decode cX8_share 96 = .ok (.iload_n 3, 1) := by decide +kernel
theorem dX8_share_97 : decode cX8_share 97 = .ok (.iconst 1, 1) := by decide +kernel
theorem dX8_share_98 : decode cX8_share 98 = .ok (.isub, 1) := by decide +kernel
theorem dX8_share_99 : decode cX8_share 99 = .ok (.iload 6, 2) := by decide +kernel
theorem dX8_share_101 : decode cX8_share 101 = .ok (.invokestatic 334, 3) := by decide +kernel
theorem dX8_share_104 : decode cX8_share 104 = .ok (.isub, 1) := by decide +kernel
theorem dX8_share_105 : decode cX8_share 105 = .ok (.invokestatic 447, 3) := by decide +kernel
theorem dX8_share_108 : decode cX8_share 108 = .ok (.i2l, 1) := by decide +kernel
theorem dX8_share_109 : decode cX8_share 109 = .ok (.lmul, 1) := by decide +kernel
theorem dX8_share_110 : decode cX8_share 110 = .ok (.aload_n 0, 1) := by decide +kernel
theorem dX8_share_111 : decode cX8_share 111 = .ok (.getfield 73, 3) := by decide +kernel
theorem dX8_share_114 : decode cX8_share 114 = .ok (.iload 6, 2) := by decide +kernel
theorem dX8_share_116 : decode cX8_share 116 = .ok (.iconst 1, 1) := by decide +kernel
theorem dX8_share_117 : decode cX8_share 117 = .ok (.iload_n 1, 1) := by decide +kernel
theorem dX8_share_118 : decode cX8_share 118 = .ok (.ishl, 1) := by decide +kernel
theorem dX8_share_119 : decode cX8_share 119 = .ok (.ior, 1) := by decide +kernel
theorem dX8_share_120 : decode cX8_share 120 = .ok (.iaload, 1) := by decide +kernel
theorem dX8_share_121 : decode cX8_share 121 = .ok (.aload_n 0, 1) := by decide +kernel
theorem dX8_share_122 : decode cX8_share 122 = .ok (.getfield 73, 3) := by decide +kernel
theorem dX8_share_125 : decode cX8_share 125 = .ok (.iload 6, 2) := by decide +kernel
theorem dX8_share_127 : decode cX8_share 127 = .ok (.iaload, 1) := by decide +kernel
theorem dX8_share_128 : decode cX8_share 128 = .ok (.isub, 1) := by decide +kernel
theorem dX8_share_129 : decode cX8_share 129 = .ok (.i2l, 1) := by decide +kernel
theorem dX8_share_130 : decode cX8_share 130 = .ok (.lmul, 1) := by decide +kernel
theorem dX8_share_131 : decode cX8_share 131 = .ok (.ladd, 1) := by decide +kernel
theorem dX8_share_132 : decode cX8_share 132 = .ok (.lstore 4, 2) := by decide +kernel
theorem dX8_share_134 : decode cX8_share 134 = .ok (.iinc 6 1, 3) := by decide +kernel
theorem dX8_share_137 : decode cX8_share 137 = .ok (.goto (-69), 3) := by decide +kernel
theorem dX8_share_140 : decode cX8_share 140 = .ok (.lload 4, 2) := by decide +kernel
theorem dX8_share_142 : decode cX8_share 142 = .ok (.iload_n 3, 1) := by decide +kernel
theorem dX8_share_143 : decode cX8_share 143 = .ok (.invokestatic 447, 3) := by decide +kernel
theorem dX8_share_146 : decode cX8_share 146 = .ok (.i2l, 1) := by decide +kernel
theorem dX8_share_147 : decode cX8_share 147 = .ok (.iload_n 2, 1) := by decide +kernel
theorem dX8_share_148 : decode cX8_share 148 = .ok (.invokestatic 450, 3) := by decide +kernel
theorem dX8_share_151 : decode cX8_share 151 = .ok (.l2i, 1) := by decide +kernel
theorem dX8_share_152 : decode cX8_share 152 = .ok (.ireturn, 1) := by decide +kernel
theorem dX8_getsBy_0 : decode cX8_getsBy 0 = .ok (.aload_n 0, 1) := by decide +kernel
theorem dX8_getsBy_1 : decode cX8_getsBy 1 = .ok (.invokevirtual 286, 3) := by decide +kernel
theorem dX8_getsBy_4 : decode cX8_getsBy 4 = .ok (.aload_n 0, 1) := by decide +kernel
theorem dX8_getsBy_5 : decode cX8_getsBy 5 = .ok (.getfield 37, 3) := by decide +kernel
theorem dX8_getsBy_8 : decode cX8_getsBy 8 = .ok (.iload_n 1, 1) := by decide +kernel
theorem dX8_getsBy_9 : decode cX8_getsBy 9 = .ok (.dup2, 1) := by decide +kernel
theorem dX8_getsBy_10 : decode cX8_getsBy 10 = .ok (.iaload, 1) := by decide +kernel
theorem dX8_getsBy_11 : decode cX8_getsBy 11 = .ok (.iload_n 3, 1) := by decide +kernel
theorem dX8_getsBy_12 : decode cX8_getsBy 12 = .ok (.iadd, 1) := by decide +kernel
theorem dX8_getsBy_13 : decode cX8_getsBy 13 = .ok (.iastore, 1) := by decide +kernel
theorem dX8_getsBy_14 : decode cX8_getsBy 14 = .ok (.aload_n 0, 1) := by decide +kernel
theorem dX8_getsBy_15 : decode cX8_getsBy 15 = .ok (.getfield 37, 3) := by decide +kernel
theorem dX8_getsBy_18 : decode cX8_getsBy 18 = .ok (.iload_n 2, 1) := by decide +kernel
theorem dX8_getsBy_19 : decode cX8_getsBy 19 = .ok (.dup2, 1) := by decide +kernel
theorem dX8_getsBy_20 : decode cX8_getsBy 20 = .ok (.iaload, 1) := by decide +kernel
theorem dX8_getsBy_21 : decode cX8_getsBy 21 = .ok (.iload 4, 2) := by decide +kernel
theorem dX8_getsBy_23 : decode cX8_getsBy 23 = .ok (.iadd, 1) := by decide +kernel
theorem dX8_getsBy_24 : decode cX8_getsBy 24 = .ok (.iastore, 1) := by decide +kernel
theorem dX8_getsBy_25 : decode cX8_getsBy 25 = .ok (.aload_n 0, 1) := by decide +kernel
theorem dX8_getsBy_26 : decode cX8_getsBy 26 = .ok (.invokevirtual 289, 3) := by decide +kernel
theorem dX8_getsBy_29 : decode cX8_getsBy 29 = .ok (.aload_n 0, 1) := by decide +kernel
theorem dX8_getsBy_30 : decode cX8_getsBy 30 = .ok (.iload 5, 2) := by decide +kernel
theorem dX8_getsBy_32 : decode cX8_getsBy 32 = .ok (.ifCond .ne 7, 3) := by decide +kernel
theorem dX8_getsBy_35 : decode cX8_getsBy 35 = .ok (.iload_n 1, 1) := by decide +kernel
theorem dX8_getsBy_36 : decode cX8_getsBy 36 = .ok (.goto 4, 3) := by decide +kernel
theorem dX8_getsBy_39 : decode cX8_getsBy 39 = .ok (.iload_n 2, 1) := by decide +kernel
theorem dX8_getsBy_40 : decode cX8_getsBy 40 = .ok (.invokevirtual 326, 3) := by decide +kernel
theorem dX8_getsBy_43 : decode cX8_getsBy 43 = .ok (.istore 6, 2) := by decide +kernel
theorem dX8_getsBy_45 : decode cX8_getsBy 45 = .ok (.iload 6, 2) := by decide +kernel
theorem dX8_getsBy_47 : decode cX8_getsBy 47 = .ok (.iconst (-1), 1) := by decide +kernel
theorem dX8_getsBy_48 : decode cX8_getsBy 48 = .ok (.if_icmp .ne 7, 3) := by decide +kernel
theorem dX8_getsBy_51 : decode cX8_getsBy 51 = .ok (.iconst 0, 1) := by decide +kernel
theorem dX8_getsBy_52 : decode cX8_getsBy 52 = .ok (.goto 8, 3) := by decide +kernel
theorem dX8_getsBy_55 : decode cX8_getsBy 55 = .ok (.bipush 20, 2) := by decide +kernel
theorem dX8_getsBy_57 : decode cX8_getsBy 57 = .ok (.iload 6, 2) := by decide +kernel
theorem dX8_getsBy_59 : decode cX8_getsBy 59 = .ok (.isub, 1) := by decide +kernel
theorem dX8_getsBy_60 : decode cX8_getsBy 60 = .ok (.iload 5, 2) := by decide +kernel
theorem dX8_getsBy_62 : decode cX8_getsBy 62 = .ok (.ifCond .ne 7, 3) := by decide +kernel
theorem dX8_getsBy_65 : decode cX8_getsBy 65 = .ok (.iload_n 3, 1) := by decide +kernel
theorem dX8_getsBy_66 : decode cX8_getsBy 66 = .ok (.goto 5, 3) := by decide +kernel
theorem dX8_getsBy_69 : decode cX8_getsBy 69 = .ok (.iload 4, 2) := by decide +kernel
theorem dX8_getsBy_71 : decode cX8_getsBy 71 = .ok (.isub, 1) := by decide +kernel
theorem dX8_getsBy_72 : decode cX8_getsBy 72 = .ok (.ireturn, 1) := by decide +kernel
theorem dX8_rests_0 : decode cX8_rests 0 = .ok (.aload_n 0, 1) := by decide +kernel
theorem dX8_rests_1 : decode cX8_rests 1 = .ok (.iload_n 1, 1) := by decide +kernel
theorem dX8_rests_2 : decode cX8_rests 2 = .ok (.iload_n 2, 1) := by decide +kernel
theorem dX8_rests_3 : decode cX8_rests 3 = .ok (.invokevirtual 346, 3) := by decide +kernel
theorem dX8_rests_6 : decode cX8_rests 6 = .ok (.ifCond .ne 6, 3) := by decide +kernel
theorem dX8_rests_9 : decode cX8_rests 9 = .ok (.bipush (-2), 2) := by decide +kernel
theorem dX8_rests_11 : decode cX8_rests 11 = .ok (.ireturn, 1) := by decide +kernel
theorem dX8_rests_12 : decode cX8_rests 12 = .ok (.iconst 0, 1) := by decide +kernel
theorem dX8_rests_13 : decode cX8_rests 13 = .ok (.istore_n 3, 1) := by decide +kernel
theorem dX8_rests_14 : decode cX8_rests 14 = .ok (.iconst 0, 1) := by decide +kernel
theorem dX8_rests_15 : decode cX8_rests 15 = .ok (.istore 4, 2) := by decide +kernel
theorem dX8_rests_17 : decode cX8_rests 17 = .ok (.iload 4, 2) := by decide +kernel
theorem dX8_rests_19 : decode cX8_rests 19 = .ok (.iconst 4, 1) := by decide +kernel
theorem dX8_rests_20 : decode cX8_rests 20 = .ok (.if_icmp .ge 98, 3) := by decide +kernel
theorem dX8_rests_23 : decode cX8_rests 23 = .ok (.iload 4, 2) := by decide +kernel
theorem dX8_rests_25 : decode cX8_rests 25 = .ok (.iconst 1, 1) := by decide +kernel
theorem dX8_rests_26 : decode cX8_rests 26 = .ok (.iand, 1) := by decide +kernel
theorem dX8_rests_27 : decode cX8_rests 27 = .ok (.istore 5, 2) := by decide +kernel
theorem dX8_rests_29 : decode cX8_rests 29 = .ok (.iload 4, 2) := by decide +kernel
theorem dX8_rests_31 : decode cX8_rests 31 = .ok (.iconst 1, 1) := by decide +kernel
theorem dX8_rests_32 : decode cX8_rests 32 = .ok (.ishr, 1) := by decide +kernel
theorem dX8_rests_33 : decode cX8_rests 33 = .ok (.istore 6, 2) := by decide +kernel
theorem dX8_rests_35 : decode cX8_rests 35 = .ok (.aload_n 0, 1) := by decide +kernel
theorem dX8_rests_36 : decode cX8_rests 36 = .ok (.iload_n 1, 1) := by decide +kernel
theorem dX8_rests_37 : decode cX8_rests 37 = .ok (.iload_n 2, 1) := by decide +kernel
theorem dX8_rests_38 : decode cX8_rests 38 = .ok (.iload 5, 2) := by decide +kernel
theorem dX8_rests_40 : decode cX8_rests 40 = .ok (.iload 6, 2) := by decide +kernel
theorem dX8_rests_42 : decode cX8_rests 42 = .ok (.iconst 0, 1) := by decide +kernel
theorem dX8_rests_43 : decode cX8_rests 43 = .ok (.invokevirtual 454, 3) := by decide +kernel
theorem dX8_rests_46 : decode cX8_rests 46 = .ok (.aload_n 0, 1) := by decide +kernel
theorem dX8_rests_47 : decode cX8_rests 47 = .ok (.iload_n 1, 1) := by decide +kernel
theorem dX8_rests_48 : decode cX8_rests 48 = .ok (.iload_n 2, 1) := by decide +kernel
theorem dX8_rests_49 : decode cX8_rests 49 = .ok (.iconst 1, 1) := by decide +kernel
theorem dX8_rests_50 : decode cX8_rests 50 = .ok (.iload 5, 2) := by decide +kernel
theorem dX8_rests_52 : decode cX8_rests 52 = .ok (.isub, 1) := by decide +kernel
theorem dX8_rests_53 : decode cX8_rests 53 = .ok (.iload 6, 2) := by decide +kernel
theorem dX8_rests_55 : decode cX8_rests 55 = .ok (.iconst 0, 1) := by decide +kernel
theorem dX8_rests_56 : decode cX8_rests 56 = .ok (.invokevirtual 454, 3) := by decide +kernel
theorem dX8_rests_59 : decode cX8_rests 59 = .ok (.if_icmp .lt 34, 3) := by decide +kernel
theorem dX8_rests_62 : decode cX8_rests 62 = .ok (.aload_n 0, 1) := by decide +kernel
theorem dX8_rests_63 : decode cX8_rests 63 = .ok (.iload_n 1, 1) := by decide +kernel
theorem dX8_rests_64 : decode cX8_rests 64 = .ok (.iload_n 2, 1) := by decide +kernel
theorem dX8_rests_65 : decode cX8_rests 65 = .ok (.iload 5, 2) := by decide +kernel
theorem dX8_rests_67 : decode cX8_rests 67 = .ok (.iload 6, 2) := by decide +kernel
theorem dX8_rests_69 : decode cX8_rests 69 = .ok (.iconst 1, 1) := by decide +kernel
theorem dX8_rests_70 : decode cX8_rests 70 = .ok (.invokevirtual 454, 3) := by decide +kernel
theorem dX8_rests_73 : decode cX8_rests 73 = .ok (.aload_n 0, 1) := by decide +kernel
theorem dX8_rests_74 : decode cX8_rests 74 = .ok (.iload_n 1, 1) := by decide +kernel
theorem dX8_rests_75 : decode cX8_rests 75 = .ok (.iload_n 2, 1) := by decide +kernel
theorem dX8_rests_76 : decode cX8_rests 76 = .ok (.iload 5, 2) := by decide +kernel
theorem dX8_rests_78 : decode cX8_rests 78 = .ok (.iconst 1, 1) := by decide +kernel
theorem dX8_rests_79 : decode cX8_rests 79 = .ok (.iload 6, 2) := by decide +kernel
theorem dX8_rests_81 : decode cX8_rests 81 = .ok (.isub, 1) := by decide +kernel
theorem dX8_rests_82 : decode cX8_rests 82 = .ok (.iconst 1, 1) := by decide +kernel
theorem dX8_rests_83 : decode cX8_rests 83 = .ok (.invokevirtual 454, 3) := by decide +kernel
theorem dX8_rests_86 : decode cX8_rests 86 = .ok (.if_icmp .lt 7, 3) := by decide +kernel
theorem dX8_rests_89 : decode cX8_rests 89 = .ok (.iconst 1, 1) := by decide +kernel
theorem dX8_rests_90 : decode cX8_rests 90 = .ok (.goto 4, 3) := by decide +kernel
theorem dX8_rests_93 : decode cX8_rests 93 = .ok (.iconst 0, 1) := by decide +kernel
theorem dX8_rests_94 : decode cX8_rests 94 = .ok (.istore 7, 2) := by decide +kernel
theorem dX8_rests_96 : decode cX8_rests 96 = .ok (.iload_n 3, 1) := by decide +kernel
theorem dX8_rests_97 : decode cX8_rests 97 = .ok (.iload 7, 2) := by decide +kernel
theorem dX8_rests_99 : decode cX8_rests 99 = .ok (.ifCond .eq 10, 3) := by decide +kernel
theorem dX8_rests_102 : decode cX8_rests 102 = .ok (.iconst 1, 1) := by decide +kernel
theorem dX8_rests_103 : decode cX8_rests 103 = .ok (.iload 4, 2) := by decide +kernel
theorem dX8_rests_105 : decode cX8_rests 105 = .ok (.ishl, 1) := by decide +kernel
theorem dX8_rests_106 : decode cX8_rests 106 = .ok (.goto 4, 3) := by decide +kernel
theorem dX8_rests_109 : decode cX8_rests 109 = .ok (.iconst 0, 1) := by decide +kernel
theorem dX8_rests_110 : decode cX8_rests 110 = .ok (.ior, 1) := by decide +kernel
theorem dX8_rests_111 : decode cX8_rests 111 = .ok (.istore_n 3, 1) := by decide +kernel
theorem dX8_rests_112 : decode cX8_rests 112 = .ok (.iinc 4 1, 3) := by decide +kernel
theorem dX8_rests_115 : decode cX8_rests 115 = .ok (.goto (-98), 3) := by decide +kernel
theorem dX8_rests_118 : decode cX8_rests 118 = .ok (.iload_n 3, 1) := by decide +kernel
theorem dX8_rests_119 : decode cX8_rests 119 = .ok (.ireturn, 1) := by decide +kernel
theorem dX8_gets_0 : decode cX8_gets 0 = .ok (.aload_n 0, 1) := by decide +kernel
theorem dX8_gets_1 : decode cX8_gets 1 = .ok (.iload_n 1, 1) := by decide +kernel
theorem dX8_gets_2 : decode cX8_gets 2 = .ok (.iload_n 2, 1) := by decide +kernel
theorem dX8_gets_3 : decode cX8_gets 3 = .ok (.invokevirtual 346, 3) := by decide +kernel
theorem dX8_gets_6 : decode cX8_gets 6 = .ok (.ifCond .eq 37, 3) := by decide +kernel
theorem dX8_gets_9 : decode cX8_gets 9 = .ok (.iload_n 3, 1) := by decide +kernel
theorem dX8_gets_10 : decode cX8_gets 10 = .ok (.i2l, 1) := by decide +kernel
theorem dX8_gets_11 : decode cX8_gets 11 = .ok (.lconst 0, 1) := by decide +kernel
theorem dX8_gets_12 : decode cX8_gets 12 = .ok (.lconst 1, 1) := by decide +kernel
theorem dX8_gets_13 : decode cX8_gets 13 = .ok (.invokestatic 94, 3) := by decide +kernel
theorem dX8_gets_16 : decode cX8_gets 16 = .ok (.ifCond .eq 27, 3) := by decide +kernel
theorem dX8_gets_19 : decode cX8_gets 19 = .ok (.iload 4, 2) := by decide +kernel
theorem dX8_gets_21 : decode cX8_gets 21 = .ok (.i2l, 1) := by decide +kernel
theorem dX8_gets_22 : decode cX8_gets 22 = .ok (.lconst 0, 1) := by decide +kernel
theorem dX8_gets_23 : decode cX8_gets 23 = .ok (.lconst 1, 1) := by decide +kernel
theorem dX8_gets_24 : decode cX8_gets 24 = .ok (.invokestatic 94, 3) := by decide +kernel
theorem dX8_gets_27 : decode cX8_gets 27 = .ok (.ifCond .eq 16, 3) := by decide +kernel
theorem dX8_gets_30 : decode cX8_gets 30 = .ok (.aload_n 0, 1) := by decide +kernel
theorem dX8_gets_31 : decode cX8_gets 31 = .ok (.iload_n 1, 1) := by decide +kernel
theorem dX8_gets_32 : decode cX8_gets 32 = .ok (.iload_n 2, 1) := by decide +kernel
theorem dX8_gets_33 : decode cX8_gets 33 = .ok (.iload_n 3, 1) := by decide +kernel
theorem dX8_gets_34 : decode cX8_gets 34 = .ok (.iload 4, 2) := by decide +kernel
theorem dX8_gets_36 : decode cX8_gets 36 = .ok (.iconst 0, 1) := by decide +kernel
theorem dX8_gets_37 : decode cX8_gets 37 = .ok (.invokevirtual 454, 3) := by decide +kernel
theorem dX8_gets_40 : decode cX8_gets 40 = .ok (.goto 6, 3) := by decide +kernel
theorem dX8_gets_43 : decode cX8_gets 43 = .ok (.sipush (-1000), 3) := by decide +kernel
theorem dX8_gets_46 : decode cX8_gets 46 = .ok (.ireturn, 1) := by decide +kernel
theorem dX8_layFog_0 : decode cX8_layFog 0 = .ok (.aload_n 0, 1) := by decide +kernel
theorem dX8_layFog_1 : decode cX8_layFog 1 = .ok (.lconst 0, 1) := by decide +kernel
theorem dX8_layFog_2 : decode cX8_layFog 2 = .ok (.putfield 458, 3) := by decide +kernel
theorem dX8_layFog_5 : decode cX8_layFog 5 = .ok (.aload_n 0, 1) := by decide +kernel
theorem dX8_layFog_6 : decode cX8_layFog 6 = .ok (.lconst 0, 1) := by decide +kernel
theorem dX8_layFog_7 : decode cX8_layFog 7 = .ok (.putfield 462, 3) := by decide +kernel
theorem dX8_layFog_10 : decode cX8_layFog 10 = .ok (.aload_n 0, 1) := by decide +kernel
theorem dX8_layFog_11 : decode cX8_layFog 11 = .ok (.lconst 0, 1) := by decide +kernel
theorem dX8_layFog_12 : decode cX8_layFog 12 = .ok (.putfield 465, 3) := by decide +kernel
theorem dX8_layFog_15 : decode cX8_layFog 15 = .ok (.aload_n 0, 1) := by decide +kernel
theorem dX8_layFog_16 : decode cX8_layFog 16 = .ok (.invokevirtual 286, 3) := by decide +kernel
theorem dX8_layFog_19 : decode cX8_layFog 19 = .ok (.iconst 0, 1) := by decide +kernel
theorem dX8_layFog_20 : decode cX8_layFog 20 = .ok (.istore_n 3, 1) := by decide +kernel
theorem dX8_layFog_21 : decode cX8_layFog 21 = .ok (.iload_n 3, 1) := by decide +kernel
theorem dX8_layFog_22 : decode cX8_layFog 22 = .ok (.iconst 2, 1) := by decide +kernel
theorem dX8_layFog_23 : decode cX8_layFog 23 = .ok (.iload_n 2, 1) := by decide +kernel
theorem dX8_layFog_24 : decode cX8_layFog 24 = .ok (.ishl, 1) := by decide +kernel
theorem dX8_layFog_25 : decode cX8_layFog 25 = .ok (.if_icmp .ge 141, 3) := by decide +kernel
theorem dX8_layFog_28 : decode cX8_layFog 28 = .ok (.lconst 1, 1) := by decide +kernel
theorem dX8_layFog_29 : decode cX8_layFog 29 = .ok (.lstore 4, 2) := by decide +kernel
theorem dX8_layFog_31 : decode cX8_layFog 31 = .ok (.iconst 0, 1) := by decide +kernel
theorem dX8_layFog_32 : decode cX8_layFog 32 = .ok (.istore 6, 2) := by decide +kernel
theorem dX8_layFog_34 : decode cX8_layFog 34 = .ok (.iload 6, 2) := by decide +kernel
theorem dX8_layFog_36 : decode cX8_layFog 36 = .ok (.iload_n 2, 1) := by decide +kernel
theorem dX8_layFog_37 : decode cX8_layFog 37 = .ok (.if_icmp .gt 44, 3) := by decide +kernel
theorem dX8_layFog_40 : decode cX8_layFog 40 = .ok (.lload 4, 2) := by decide +kernel
theorem dX8_layFog_42 : decode cX8_layFog 42 = .ok (.iload_n 3, 1) := by decide +kernel
theorem dX8_layFog_43 : decode cX8_layFog 43 = .ok (.iload 6, 2) := by decide +kernel
theorem dX8_layFog_45 : decode cX8_layFog 45 = .ok (.invokestatic 266, 3) := by decide +kernel
theorem dX8_layFog_48 : decode cX8_layFog 48 = .ok (.iconst 1, 1) := by decide +kernel
theorem dX8_layFog_49 : decode cX8_layFog 49 = .ok (.if_icmp .ne 13, 3) := by decide +kernel
theorem dX8_layFog_52 : decode cX8_layFog 52 = .ok (.aload_n 0, 1) := by decide +kernel
theorem dX8_layFog_53 : decode cX8_layFog 53 = .ok (.getfield 9, 3) := by decide +kernel
theorem dX8_layFog_56 : decode cX8_layFog 56 = .ok (.iconst 2, 1) := by decide +kernel
theorem dX8_layFog_57 : decode cX8_layFog 57 = .ok (.iaload, 1) := by decide +kernel
theorem dX8_layFog_58 : decode cX8_layFog 58 = .ok (.i2l, 1) := by decide +kernel
theorem dX8_layFog_59 : decode cX8_layFog 59 = .ok (.goto 13, 3) := by decide +kernel
theorem dX8_layFog_62 : decode cX8_layFog 62 = .ok (.bipush 10, 2) := by decide +kernel
theorem dX8_layFog_64 : decode cX8_layFog 64 = .ok (.aload_n 0, 1) := by decide +kernel
theorem dX8_layFog_65 : decode cX8_layFog 65 = .ok (.getfield 9, 3) := by decide +kernel
theorem dX8_layFog_68 : decode cX8_layFog 68 = .ok (.iconst 2, 1) := by decide +kernel
theorem dX8_layFog_69 : decode cX8_layFog 69 = .ok (.iaload, 1) := by decide +kernel
theorem dX8_layFog_70 : decode cX8_layFog 70 = .ok (.isub, 1) := by decide +kernel
theorem dX8_layFog_71 : decode cX8_layFog 71 = .ok (.i2l, 1) := by decide +kernel
theorem dX8_layFog_72 : decode cX8_layFog 72 = .ok (.lmul, 1) := by decide +kernel
theorem dX8_layFog_73 : decode cX8_layFog 73 = .ok (.lstore 4, 2) := by decide +kernel
theorem dX8_layFog_75 : decode cX8_layFog 75 = .ok (.iinc 6 1, 3) := by decide +kernel
theorem dX8_layFog_78 : decode cX8_layFog 78 = .ok (.goto (-44), 3) := by decide +kernel
theorem dX8_layFog_81 : decode cX8_layFog 81 = .ok (.lload 4, 2) := by decide +kernel
theorem dX8_layFog_83 : decode cX8_layFog 83 = .ok (.lconst 0, 1) := by decide +kernel
theorem dX8_layFog_84 : decode cX8_layFog 84 = .ok (.lcmp, 1) := by decide +kernel
theorem dX8_layFog_85 : decode cX8_layFog 85 = .ok (.ifCond .ne 6, 3) := by decide +kernel
theorem dX8_layFog_88 : decode cX8_layFog 88 = .ok (.goto 72, 3) := by decide +kernel
theorem dX8_layFog_91 : decode cX8_layFog 91 = .ok (.aload_n 0, 1) := by decide +kernel
theorem dX8_layFog_92 : decode cX8_layFog 92 = .ok (.iload_n 3, 1) := by decide +kernel
theorem dX8_layFog_93 : decode cX8_layFog 93 = .ok (.putfield 260, 3) := by decide +kernel
theorem dX8_layFog_96 : decode cX8_layFog 96 = .ok (.aload_n 0, 1) := by decide +kernel
theorem dX8_layFog_97 : decode cX8_layFog 97 = .ok (.invokevirtual 289, 3) := by decide +kernel
theorem dX8_layFog_100 : decode cX8_layFog 100 = .ok (.aload_n 0, 1) := by decide +kernel
theorem dX8_layFog_101 : decode cX8_layFog 101 = .ok (.dup, 1) := by decide +kernel
theorem dX8_layFog_102 : decode cX8_layFog 102 = .ok (.getfield 458, 3) := by decide +kernel
theorem dX8_layFog_105 : decode cX8_layFog 105 = .ok (.lload 4, 2) := by decide +kernel
theorem dX8_layFog_107 : decode cX8_layFog 107 = .ok (.ladd, 1) := by decide +kernel
theorem dX8_layFog_108 : decode cX8_layFog 108 = .ok (.putfield 458, 3) := by decide +kernel
theorem dX8_layFog_111 : decode cX8_layFog 111 = .ok (.aload_n 0, 1) := by decide +kernel
theorem dX8_layFog_112 : decode cX8_layFog 112 = .ok (.dup, 1) := by decide +kernel
theorem dX8_layFog_113 : decode cX8_layFog 113 = .ok (.getfield 462, 3) := by decide +kernel
theorem dX8_layFog_116 : decode cX8_layFog 116 = .ok (.aload_n 0, 1) := by decide +kernel
theorem dX8_layFog_117 : decode cX8_layFog 117 = .ok (.iload_n 1, 1) := by decide +kernel
theorem dX8_layFog_118 : decode cX8_layFog 118 = .ok (.iload_n 2, 1) := by decide +kernel
theorem dX8_layFog_119 : decode cX8_layFog 119 = .ok (.iconst 1, 1) := by decide +kernel
theorem dX8_layFog_120 : decode cX8_layFog 120 = .ok (.iadd, 1) := by decide +kernel
theorem dX8_layFog_121 : decode cX8_layFog 121 = .ok (.invokevirtual 323, 3) := by decide +kernel
theorem dX8_layFog_124 : decode cX8_layFog 124 = .ok (.ifCond .eq 8, 3) := by decide +kernel
theorem dX8_layFog_127 : decode cX8_layFog 127 = .ok (.lload 4, 2) := by decide +kernel
theorem dX8_layFog_129 : decode cX8_layFog 129 = .ok (.goto 4, 3) := by decide +kernel
theorem dX8_layFog_132 : decode cX8_layFog 132 = .ok (.lconst 0, 1) := by decide +kernel
theorem dX8_layFog_133 : decode cX8_layFog 133 = .ok (.ladd, 1) := by decide +kernel
theorem dX8_layFog_134 : decode cX8_layFog 134 = .ok (.putfield 462, 3) := by decide +kernel
theorem dX8_layFog_137 : decode cX8_layFog 137 = .ok (.aload_n 0, 1) := by decide +kernel
theorem dX8_layFog_138 : decode cX8_layFog 138 = .ok (.dup, 1) := by decide +kernel
theorem dX8_layFog_139 : decode cX8_layFog 139 = .ok (.getfield 465, 3) := by decide +kernel
theorem dX8_layFog_142 : decode cX8_layFog 142 = .ok (.lload 4, 2) := by decide +kernel
theorem dX8_layFog_144 : decode cX8_layFog 144 = .ok (.aload_n 0, 1) := by decide +kernel
theorem dX8_layFog_145 : decode cX8_layFog 145 = .ok (.iload_n 2, 1) := by decide +kernel
theorem dX8_layFog_146 : decode cX8_layFog 146 = .ok (.iconst 1, 1) := by decide +kernel
theorem dX8_layFog_147 : decode cX8_layFog 147 = .ok (.iadd, 1) := by decide +kernel
theorem dX8_layFog_148 : decode cX8_layFog 148 = .ok (.invokevirtual 340, 3) := by decide +kernel
theorem dX8_layFog_151 : decode cX8_layFog 151 = .ok (.invokestatic 334, 3) := by decide +kernel
theorem dX8_layFog_154 : decode cX8_layFog 154 = .ok (.i2l, 1) := by decide +kernel
theorem dX8_layFog_155 : decode cX8_layFog 155 = .ok (.lmul, 1) := by decide +kernel
theorem dX8_layFog_156 : decode cX8_layFog 156 = .ok (.ladd, 1) := by decide +kernel
theorem dX8_layFog_157 : decode cX8_layFog 157 = .ok (.putfield 465, 3) := by decide +kernel
theorem dX8_layFog_160 : decode cX8_layFog 160 = .ok (.iinc 3 1, 3) := by decide +kernel
theorem dX8_layFog_163 : decode cX8_layFog 163 = .ok (.goto (-142), 3) := by decide +kernel
theorem dX8_layFog_166 : decode cX8_layFog 166 = .ok (.return_, 1) := by decide +kernel
theorem dX8_isFog_0 : decode cX8_isFog 0 = .ok (.aload_n 0, 1) := by decide +kernel
theorem dX8_isFog_1 : decode cX8_isFog 1 = .ok (.iload_n 1, 1) := by decide +kernel
theorem dX8_isFog_2 : decode cX8_isFog 2 = .ok (.i2l, 1) := by decide +kernel
theorem dX8_isFog_3 : decode cX8_isFog 3 = .ok (.invokevirtual 311, 3) := by decide +kernel
theorem dX8_isFog_6 : decode cX8_isFog 6 = .ok (.ifCond .eq 23, 3) := by decide +kernel
theorem dX8_isFog_9 : decode cX8_isFog 9 = .ok (.iload_n 1, 1) := by decide +kernel
theorem dX8_isFog_10 : decode cX8_isFog 10 = .ok (.bipush 7, 2) := by decide +kernel
theorem dX8_isFog_12 : decode cX8_isFog 12 = .ok (.if_icmp .gt 17, 3) := by decide +kernel
theorem dX8_isFog_15 : decode cX8_isFog 15 = .ok (.iload_n 2, 1) := by decide +kernel
theorem dX8_isFog_16 : decode cX8_isFog 16 = .ok (.i2l, 1) := by decide +kernel
theorem dX8_isFog_17 : decode cX8_isFog 17 = .ok (.lconst 0, 1) := by decide +kernel
theorem dX8_isFog_18 : decode cX8_isFog 18 = .ok (.lconst 1, 1) := by decide +kernel
theorem dX8_isFog_19 : decode cX8_isFog 19 = .ok (.invokestatic 94, 3) := by decide +kernel
theorem dX8_isFog_22 : decode cX8_isFog 22 = .ok (.ifCond .eq 7, 3) := by decide +kernel
theorem dX8_isFog_25 : decode cX8_isFog 25 = .ok (.iconst 1, 1) := by decide +kernel
theorem dX8_isFog_26 : decode cX8_isFog 26 = .ok (.goto 4, 3) := by decide +kernel
theorem dX8_isFog_29 : decode cX8_isFog 29 = .ok (.iconst 0, 1) := by decide +kernel
theorem dX8_isFog_30 : decode cX8_isFog 30 = .ok (.ireturn, 1) := by decide +kernel
theorem dX8_chance_0 : decode cX8_chance 0 = .ok (.aload_n 0, 1) := by decide +kernel
theorem dX8_chance_1 : decode cX8_chance 1 = .ok (.iload_n 1, 1) := by decide +kernel
theorem dX8_chance_2 : decode cX8_chance 2 = .ok (.i2l, 1) := by decide +kernel
theorem dX8_chance_3 : decode cX8_chance 3 = .ok (.invokevirtual 254, 3) := by decide +kernel
theorem dX8_chance_6 : decode cX8_chance 6 = .ok (.ifCond .eq 12, 3) := by decide +kernel
theorem dX8_chance_9 : decode cX8_chance 9 = .ok (.aload_n 0, 1) := by decide +kernel
theorem dX8_chance_10 : decode cX8_chance 10 = .ok (.iload_n 2, 1) := by decide +kernel
theorem dX8_chance_11 : decode cX8_chance 11 = .ok (.iload_n 3, 1) := by decide +kernel
theorem dX8_chance_12 : decode cX8_chance 12 = .ok (.invokevirtual 468, 3) := by decide +kernel
theorem dX8_chance_15 : decode cX8_chance 15 = .ok (.ifCond .ne 7, 3) := by decide +kernel
theorem dX8_chance_18 : decode cX8_chance 18 = .ok (.ldc2_w 471, 3) := by decide +kernel
theorem dX8_chance_21 : decode cX8_chance 21 = .ok (.lreturn, 1) := by decide +kernel
theorem dX8_chance_22 : decode cX8_chance 22 = .ok (.aload_n 0, 1) := by decide +kernel
theorem dX8_chance_23 : decode cX8_chance 23 = .ok (.iload_n 1, 1) := by decide +kernel
theorem dX8_chance_24 : decode cX8_chance 24 = .ok (.iload_n 2, 1) := by decide +kernel
theorem dX8_chance_25 : decode cX8_chance 25 = .ok (.invokevirtual 473, 3) := by decide +kernel
theorem dX8_chance_28 : decode cX8_chance 28 = .ok (.aload_n 0, 1) := by decide +kernel
theorem dX8_chance_29 : decode cX8_chance 29 = .ok (.getfield 462, 3) := by decide +kernel
theorem dX8_chance_32 : decode cX8_chance 32 = .ok (.aload_n 0, 1) := by decide +kernel
theorem dX8_chance_33 : decode cX8_chance 33 = .ok (.getfield 458, 3) := by decide +kernel
theorem dX8_chance_36 : decode cX8_chance 36 = .ok (.iload_n 3, 1) := by decide +kernel
theorem dX8_chance_37 : decode cX8_chance 37 = .ok (.invokestatic 450, 3) := by decide +kernel
theorem dX8_chance_40 : decode cX8_chance 40 = .ok (.lreturn, 1) := by decide +kernel
theorem dX8_mean_0 : decode cX8_mean 0 = .ok (.aload_n 0, 1) := by decide +kernel
theorem dX8_mean_1 : decode cX8_mean 1 = .ok (.iload_n 1, 1) := by decide +kernel
theorem dX8_mean_2 : decode cX8_mean 2 = .ok (.iload_n 2, 1) := by decide +kernel
theorem dX8_mean_3 : decode cX8_mean 3 = .ok (.invokevirtual 468, 3) := by decide +kernel
theorem dX8_mean_6 : decode cX8_mean 6 = .ok (.ifCond .ne 7, 3) := by decide +kernel
theorem dX8_mean_9 : decode cX8_mean 9 = .ok (.ldc2_w 471, 3) := by decide +kernel
theorem dX8_mean_12 : decode cX8_mean 12 = .ok (.lreturn, 1) := by decide +kernel
theorem dX8_mean_13 : decode cX8_mean 13 = .ok (.aload_n 0, 1) := by decide +kernel
theorem dX8_mean_14 : decode cX8_mean 14 = .ok (.iconst 0, 1) := by decide +kernel
theorem dX8_mean_15 : decode cX8_mean 15 = .ok (.iload_n 1, 1) := by decide +kernel
theorem dX8_mean_16 : decode cX8_mean 16 = .ok (.invokevirtual 473, 3) := by decide +kernel
theorem dX8_mean_19 : decode cX8_mean 19 = .ok (.aload_n 0, 1) := by decide +kernel
theorem dX8_mean_20 : decode cX8_mean 20 = .ok (.getfield 465, 3) := by decide +kernel
theorem dX8_mean_23 : decode cX8_mean 23 = .ok (.aload_n 0, 1) := by decide +kernel
theorem dX8_mean_24 : decode cX8_mean 24 = .ok (.getfield 458, 3) := by decide +kernel
theorem dX8_mean_27 : decode cX8_mean 27 = .ok (.iload_n 2, 1) := by decide +kernel
theorem dX8_mean_28 : decode cX8_mean 28 = .ok (.invokestatic 450, 3) := by decide +kernel
theorem dX8_mean_31 : decode cX8_mean 31 = .ok (.lreturn, 1) := by decide +kernel
theorem dX8_keepAct_0 : decode cX8_keepAct 0 = .ok (.aload_n 0, 1) := by decide +kernel
theorem dX8_keepAct_1 : decode cX8_keepAct 1 = .ok (.getfield 9, 3) := by decide +kernel
theorem dX8_keepAct_4 : decode cX8_keepAct 4 = .ok (.bipush 8, 2) := by decide +kernel
theorem dX8_keepAct_6 : decode cX8_keepAct 6 = .ok (.iaload, 1) := by decide +kernel
theorem dX8_keepAct_7 : decode cX8_keepAct 7 = .ok (.bipush 30, 2) := by decide +kernel
theorem dX8_keepAct_9 : decode cX8_keepAct 9 = .ok (.if_icmp .ne 5, 3) := by decide +kernel
theorem dX8_keepAct_12 : decode cX8_keepAct 12 = .ok (.iconst 0, 1) := by decide +kernel
theorem dX8_keepAct_13 : decode cX8_keepAct 13 = .ok (.ireturn, 1) := by decide +kernel
theorem dX8_keepAct_14 : decode cX8_keepAct 14 = .ok (.aload_n 0, 1) := by decide +kernel
theorem dX8_keepAct_15 : decode cX8_keepAct 15 = .ok (.getfield 9, 3) := by decide +kernel
theorem dX8_keepAct_18 : decode cX8_keepAct 18 = .ok (.bipush 72, 2) := by decide +kernel
theorem dX8_keepAct_20 : decode cX8_keepAct 20 = .ok (.aload_n 0, 1) := by decide +kernel
theorem dX8_keepAct_21 : decode cX8_keepAct 21 = .ok (.getfield 9, 3) := by decide +kernel
theorem dX8_keepAct_24 : decode cX8_keepAct 24 = .ok (.bipush 8, 2) := by decide +kernel
theorem dX8_keepAct_26 : decode cX8_keepAct 26 = .ok (.iaload, 1) := by decide +kernel
theorem dX8_keepAct_27 : decode cX8_keepAct 27 = .ok (.iadd, 1) := by decide +kernel
theorem dX8_keepAct_28 : decode cX8_keepAct 28 = .ok (.iload_n 1, 1) := by decide +kernel
theorem dX8_keepAct_29 : decode cX8_keepAct 29 = .ok (.iastore, 1) := by decide +kernel
theorem dX8_keepAct_30 : decode cX8_keepAct 30 = .ok (.aload_n 0, 1) := by decide +kernel
theorem dX8_keepAct_31 : decode cX8_keepAct 31 = .ok (.getfield 9, 3) := by decide +kernel
theorem dX8_keepAct_34 : decode cX8_keepAct 34 = .ok (.bipush 8, 2) := by decide +kernel
theorem dX8_keepAct_36 : decode cX8_keepAct 36 = .ok (.dup2, 1) := by decide +kernel
theorem dX8_keepAct_37 : decode cX8_keepAct 37 = .ok (.iaload, 1) := by decide +kernel
theorem dX8_keepAct_38 : decode cX8_keepAct 38 = .ok (.iconst 1, 1) := by decide +kernel
theorem dX8_keepAct_39 : decode cX8_keepAct 39 = .ok (.iadd, 1) := by decide +kernel
theorem dX8_keepAct_40 : decode cX8_keepAct 40 = .ok (.iastore, 1) := by decide +kernel
theorem dX8_keepAct_41 : decode cX8_keepAct 41 = .ok (.aload_n 0, 1) := by decide +kernel
theorem dX8_keepAct_42 : decode cX8_keepAct 42 = .ok (.invokevirtual 292, 3) := by decide +kernel
theorem dX8_keepAct_45 : decode cX8_keepAct 45 = .ok (.pop, 1) := by decide +kernel
theorem dX8_keepAct_46 : decode cX8_keepAct 46 = .ok (.iconst 1, 1) := by decide +kernel
theorem dX8_keepAct_47 : decode cX8_keepAct 47 = .ok (.ireturn, 1) := by decide +kernel
theorem dX8_twists_0 : decode cX8_twists 0 = .ok (.aload_n 0, 1) := by decide +kernel
theorem dX8_twists_1 : decode cX8_twists 1 = .ok (.iload_n 1, 1) := by decide +kernel
theorem dX8_twists_2 : decode cX8_twists 2 = .ok (.i2l, 1) := by decide +kernel
theorem dX8_twists_3 : decode cX8_twists 3 = .ok (.invokevirtual 112, 3) := by decide +kernel
theorem dX8_twists_6 : decode cX8_twists 6 = .ok (.ifCond .eq 12, 3) := by decide +kernel
theorem dX8_twists_9 : decode cX8_twists 9 = .ok (.aload_n 0, 1) := by decide +kernel
theorem dX8_twists_10 : decode cX8_twists 10 = .ok (.iload_n 2, 1) := by decide +kernel
theorem dX8_twists_11 : decode cX8_twists 11 = .ok (.i2l, 1) := by decide +kernel
theorem dX8_twists_12 : decode cX8_twists 12 = .ok (.invokevirtual 311, 3) := by decide +kernel
theorem dX8_twists_15 : decode cX8_twists 15 = .ok (.ifCond .ne 6, 3) := by decide +kernel
theorem dX8_twists_18 : decode cX8_twists 18 = .ok (.bipush (-2), 2) := by decide +kernel
theorem dX8_twists_20 : decode cX8_twists 20 = .ok (.ireturn, 1) := by decide +kernel
theorem dX8_twists_21 : decode cX8_twists 21 = .ok (.aload_n 0, 1) := by decide +kernel
theorem dX8_twists_22 : decode cX8_twists 22 = .ok (.bipush 100, 2) := by decide +kernel
theorem dX8_twists_24 : decode cX8_twists 24 = .ok (.iload_n 1, 1) := by decide +kernel
theorem dX8_twists_25 : decode cX8_twists 25 = .ok (.imul, 1) := by decide +kernel
theorem dX8_twists_26 : decode cX8_twists 26 = .ok (.iload_n 2, 1) := by decide +kernel
theorem dX8_twists_27 : decode cX8_twists 27 = .ok (.iadd, 1) := by decide +kernel
theorem dX8_twists_28 : decode cX8_twists 28 = .ok (.invokevirtual 476, 3) := by decide +kernel
theorem dX8_twists_31 : decode cX8_twists 31 = .ok (.ifCond .ne 6, 3) := by decide +kernel
theorem dX8_twists_34 : decode cX8_twists 34 = .ok (.bipush (-5), 2) := by decide +kernel
theorem dX8_twists_36 : decode cX8_twists 36 = .ok (.ireturn, 1) := by decide +kernel
theorem dX8_twists_37 : decode cX8_twists 37 = .ok (.aload_n 0, 1) := by decide +kernel
theorem dX8_twists_38 : decode cX8_twists 38 = .ok (.iload_n 1, 1) := by decide +kernel
theorem dX8_twists_39 : decode cX8_twists 39 = .ok (.invokevirtual 245, 3) := by decide +kernel
theorem dX8_twists_42 : decode cX8_twists 42 = .ok (.ifCond .ne 7, 3) := by decide +kernel
theorem dX8_twists_45 : decode cX8_twists 45 = .ok (.iconst (-1), 1) := by decide +kernel
theorem dX8_twists_46 : decode cX8_twists 46 = .ok (.goto 9, 3) := by decide +kernel
theorem dX8_twists_49 : decode cX8_twists 49 = .ok (.aload_n 0, 1) := by decide +kernel
theorem dX8_twists_50 : decode cX8_twists 50 = .ok (.getfield 40, 3) := by decide +kernel
theorem dX8_twists_53 : decode cX8_twists 53 = .ok (.iload_n 1, 1) := by decide +kernel
theorem dX8_twists_54 : decode cX8_twists 54 = .ok (.iaload, 1) := by decide +kernel
theorem dX8_twists_55 : decode cX8_twists 55 = .ok (.ireturn, 1) := by decide +kernel
theorem dX8_holds_0 : decode cX8_holds 0 = .ok (.aload_n 0, 1) := by decide +kernel
theorem dX8_holds_1 : decode cX8_holds 1 = .ok (.iload_n 1, 1) := by decide +kernel
theorem dX8_holds_2 : decode cX8_holds 2 = .ok (.i2l, 1) := by decide +kernel
theorem dX8_holds_3 : decode cX8_holds 3 = .ok (.invokevirtual 254, 3) := by decide +kernel
theorem dX8_holds_6 : decode cX8_holds 6 = .ok (.ifCond .eq 12, 3) := by decide +kernel
theorem dX8_holds_9 : decode cX8_holds 9 = .ok (.aload_n 0, 1) := by decide +kernel
theorem dX8_holds_10 : decode cX8_holds 10 = .ok (.iload_n 2, 1) := by decide +kernel
theorem dX8_holds_11 : decode cX8_holds 11 = .ok (.i2l, 1) := by decide +kernel
theorem dX8_holds_12 : decode cX8_holds 12 = .ok (.invokevirtual 311, 3) := by decide +kernel
theorem dX8_holds_15 : decode cX8_holds 15 = .ok (.ifCond .ne 6, 3) := by decide +kernel
theorem dX8_holds_18 : decode cX8_holds 18 = .ok (.bipush (-2), 2) := by decide +kernel
theorem dX8_holds_20 : decode cX8_holds 20 = .ok (.ireturn, 1) := by decide +kernel
theorem dX8_holds_21 : decode cX8_holds 21 = .ok (.aload_n 0, 1) := by decide +kernel
theorem dX8_holds_22 : decode cX8_holds 22 = .ok (.sipush 10000, 3) := by decide +kernel
theorem dX8_holds_25 : decode cX8_holds 25 = .ok (.bipush 100, 2) := by decide +kernel
theorem dX8_holds_27 : decode cX8_holds 27 = .ok (.iload_n 1, 1) := by decide +kernel
theorem dX8_holds_28 : decode cX8_holds 28 = .ok (.imul, 1) := by decide +kernel
theorem dX8_holds_29 : decode cX8_holds 29 = .ok (.iadd, 1) := by decide +kernel
theorem dX8_holds_30 : decode cX8_holds 30 = .ok (.iload_n 2, 1) := by decide +kernel
theorem dX8_holds_31 : decode cX8_holds 31 = .ok (.iadd, 1) := by decide +kernel
theorem dX8_holds_32 : decode cX8_holds 32 = .ok (.invokevirtual 476, 3) := by decide +kernel
theorem dX8_holds_35 : decode cX8_holds 35 = .ok (.ifCond .eq 15, 3) := by decide +kernel
theorem dX8_holds_38 : decode cX8_holds 38 = .ok (.aload_n 0, 1) := by decide +kernel
theorem dX8_holds_39 : decode cX8_holds 39 = .ok (.iload_n 1, 1) := by decide +kernel
theorem dX8_holds_40 : decode cX8_holds 40 = .ok (.aload_n 0, 1) := by decide +kernel
theorem dX8_holds_41 : decode cX8_holds 41 = .ok (.invokevirtual 106, 3) := by decide +kernel
theorem dX8_holds_44 : decode cX8_holds 44 = .ok (.invokevirtual 298, 3) := by decide +kernel
theorem dX8_holds_47 : decode cX8_holds 47 = .ok (.goto 5, 3) := by decide +kernel
theorem dX8_holds_50 : decode cX8_holds 50 = .ok (.bipush (-5), 2) := by decide +kernel
theorem dX8_holds_52 : decode cX8_holds 52 = .ok (.ireturn, 1) := by decide +kernel
theorem dX8_undo_0 : decode cX8_undo 0 = .ok (.aload_n 0, 1) := by decide +kernel
theorem dX8_undo_1 : decode cX8_undo 1 = .ok (.invokevirtual 102, 3) := by decide +kernel
theorem dX8_undo_4 : decode cX8_undo 4 = .ok (.ifCond .ne 6, 3) := by decide +kernel
theorem dX8_undo_7 : decode cX8_undo 7 = .ok (.bipush (-2), 2) := by decide +kernel
theorem dX8_undo_9 : decode cX8_undo 9 = .ok (.ireturn, 1) := by decide +kernel
theorem dX8_undo_10 : decode cX8_undo 10 = .ok (.aload_n 0, 1) := by decide +kernel
theorem dX8_undo_11 : decode cX8_undo 11 = .ok (.getfield 9, 3) := by decide +kernel
theorem dX8_undo_14 : decode cX8_undo 14 = .ok (.bipush 8, 2) := by decide +kernel
theorem dX8_undo_16 : decode cX8_undo 16 = .ok (.iaload, 1) := by decide +kernel
theorem dX8_undo_17 : decode cX8_undo 17 = .ok (.ifCond .ne 6, 3) := by decide +kernel
theorem dX8_undo_20 : decode cX8_undo 20 = .ok (.bipush (-5), 2) := by decide +kernel
theorem dX8_undo_22 : decode cX8_undo 22 = .ok (.ireturn, 1) := by decide +kernel
theorem dX8_undo_23 : decode cX8_undo 23 = .ok (.aload_n 0, 1) := by decide +kernel
theorem dX8_undo_24 : decode cX8_undo 24 = .ok (.getfield 9, 3) := by decide +kernel
theorem dX8_undo_27 : decode cX8_undo 27 = .ok (.bipush 8, 2) := by decide +kernel
theorem dX8_undo_29 : decode cX8_undo 29 = .ok (.dup2, 1) := by decide +kernel
theorem dX8_undo_30 : decode cX8_undo 30 = .ok (.iaload, 1) := by decide +kernel
theorem dX8_undo_31 : decode cX8_undo 31 = .ok (.iconst 1, 1) := by decide +kernel
theorem dX8_undo_32 : decode cX8_undo 32 = .ok (.isub, 1) := by decide +kernel
theorem dX8_undo_33 : decode cX8_undo 33 = .ok (.iastore, 1) := by decide +kernel
theorem dX8_undo_34 : decode cX8_undo 34 = .ok (.aload_n 0, 1) := by decide +kernel
theorem dX8_undo_35 : decode cX8_undo 35 = .ok (.getfield 9, 3) := by decide +kernel
theorem dX8_undo_38 : decode cX8_undo 38 = .ok (.bipush 8, 2) := by decide +kernel
theorem dX8_undo_40 : decode cX8_undo 40 = .ok (.iaload, 1) := by decide +kernel
theorem dX8_undo_41 : decode cX8_undo 41 = .ok (.ireturn, 1) := by decide +kernel
theorem dX8_anew_0 : decode cX8_anew 0 = .ok (.aload_n 0, 1) := by decide +kernel
theorem dX8_anew_1 : decode cX8_anew 1 = .ok (.invokevirtual 102, 3) := by decide +kernel
theorem dX8_anew_4 : decode cX8_anew 4 = .ok (.ifCond .ne 6, 3) := by decide +kernel
theorem dX8_anew_7 : decode cX8_anew 7 = .ok (.bipush (-2), 2) := by decide +kernel
theorem dX8_anew_9 : decode cX8_anew 9 = .ok (.ireturn, 1) := by decide +kernel
theorem dX8_anew_10 : decode cX8_anew 10 = .ok (.aload_n 0, 1) := by decide +kernel
theorem dX8_anew_11 : decode cX8_anew 11 = .ok (.getfield 9, 3) := by decide +kernel
theorem dX8_anew_14 : decode cX8_anew 14 = .ok (.bipush 8, 2) := by decide +kernel
theorem dX8_anew_16 : decode cX8_anew 16 = .ok (.iaload, 1) := by decide +kernel
theorem dX8_anew_17 : decode cX8_anew 17 = .ok (.istore_n 1, 1) := by decide +kernel
theorem dX8_anew_18 : decode cX8_anew 18 = .ok (.aload_n 0, 1) := by decide +kernel
theorem dX8_anew_19 : decode cX8_anew 19 = .ok (.getfield 9, 3) := by decide +kernel
theorem dX8_anew_22 : decode cX8_anew 22 = .ok (.bipush 8, 2) := by decide +kernel
theorem dX8_anew_24 : decode cX8_anew 24 = .ok (.iconst 0, 1) := by decide +kernel
theorem dX8_anew_25 : decode cX8_anew 25 = .ok (.iastore, 1) := by decide +kernel
theorem dX8_anew_26 : decode cX8_anew 26 = .ok (.iload_n 1, 1) := by decide +kernel
theorem dX8_anew_27 : decode cX8_anew 27 = .ok (.ireturn, 1) := by decide +kernel
theorem dX8_goDrawn_0 : decode cX8_goDrawn 0 = .ok (.aload_n 0, 1) := by decide +kernel
theorem dX8_goDrawn_1 : decode cX8_goDrawn 1 = .ok (.invokevirtual 286, 3) := by decide +kernel
theorem dX8_goDrawn_4 : decode cX8_goDrawn 4 = .ok (.lload_n 1, 1) := by decide +kernel
theorem dX8_goDrawn_5 : decode cX8_goDrawn 5 = .ok (.lstore_n 3, 1) := by decide +kernel
theorem dX8_goDrawn_6 : decode cX8_goDrawn 6 = .ok (.iconst 0, 1) := by decide +kernel
theorem dX8_goDrawn_7 : decode cX8_goDrawn 7 = .ok (.istore 5, 2) := by decide +kernel
theorem dX8_goDrawn_9 : decode cX8_goDrawn 9 = .ok (.iload 5, 2) := by decide +kernel
theorem dX8_goDrawn_11 : decode cX8_goDrawn 11 = .ok (.aload_n 0, 1) := by decide +kernel
theorem dX8_goDrawn_12 : decode cX8_goDrawn 12 = .ok (.invokevirtual 106, 3) := by decide +kernel
theorem dX8_goDrawn_15 : decode cX8_goDrawn 15 = .ok (.if_icmp .ge 60, 3) := by decide +kernel
theorem dX8_goDrawn_18 : decode cX8_goDrawn 18 = .ok (.ldc2_w 479, 3) := by decide +kernel
theorem dX8_goDrawn_21 : decode cX8_goDrawn 21 = .ok (.lload_n 3, 1) := by decide +kernel
theorem dX8_goDrawn_22 : decode cX8_goDrawn 22 = .ok (.lmul, 1) := by decide +kernel
theorem dX8_goDrawn_23 : decode cX8_goDrawn 23 = .ok (.ldc2_w 481, 3) := by decide +kernel
theorem dX8_goDrawn_26 : decode cX8_goDrawn 26 = .ok (.ladd, 1) := by decide +kernel
theorem dX8_goDrawn_27 : decode cX8_goDrawn 27 = .ok (.ldc2_w 483, 3) := by decide +kernel
theorem dX8_goDrawn_30 : decode cX8_goDrawn 30 = .ok (.lrem, 1) := by decide +kernel
theorem dX8_goDrawn_31 : decode cX8_goDrawn 31 = .ok (.lstore_n 3, 1) := by decide +kernel
theorem dX8_goDrawn_32 : decode cX8_goDrawn 32 = .ok (.aload_n 0, 1) := by decide +kernel
theorem dX8_goDrawn_33 : decode cX8_goDrawn 33 = .ok (.dup, 1) := by decide +kernel
theorem dX8_goDrawn_34 : decode cX8_goDrawn 34 = .ok (.getfield 260, 3) := by decide +kernel
theorem dX8_goDrawn_37 : decode cX8_goDrawn 37 = .ok (.lload_n 3, 1) := by decide +kernel
theorem dX8_goDrawn_38 : decode cX8_goDrawn 38 = .ok (.ldc2_w 485, 3) := by decide +kernel
theorem dX8_goDrawn_41 : decode cX8_goDrawn 41 = .ok (.ldiv, 1) := by decide +kernel
theorem dX8_goDrawn_42 : decode cX8_goDrawn 42 = .ok (.ldc2_w 116, 3) := by decide +kernel
theorem dX8_goDrawn_45 : decode cX8_goDrawn 45 = .ok (.lrem, 1) := by decide +kernel
theorem dX8_goDrawn_46 : decode cX8_goDrawn 46 = .ok (.aload_n 0, 1) := by decide +kernel
theorem dX8_goDrawn_47 : decode cX8_goDrawn 47 = .ok (.getfield 9, 3) := by decide +kernel
theorem dX8_goDrawn_50 : decode cX8_goDrawn 50 = .ok (.iconst 2, 1) := by decide +kernel
theorem dX8_goDrawn_51 : decode cX8_goDrawn 51 = .ok (.iaload, 1) := by decide +kernel
theorem dX8_goDrawn_52 : decode cX8_goDrawn 52 = .ok (.i2l, 1) := by decide +kernel
theorem dX8_goDrawn_53 : decode cX8_goDrawn 53 = .ok (.lcmp, 1) := by decide +kernel
theorem dX8_goDrawn_54 : decode cX8_goDrawn 54 = .ok (.ifCond .ge 10, 3) := by decide +kernel
theorem dX8_goDrawn_57 : decode cX8_goDrawn 57 = .ok (.iconst 1, 1) := by decide +kernel
theorem dX8_goDrawn_58 : decode cX8_goDrawn 58 = .ok (.iload 5, 2) := by decide +kernel
theorem dX8_goDrawn_60 : decode cX8_goDrawn 60 = .ok (.ishl, 1) := by decide +kernel
theorem dX8_goDrawn_61 : decode cX8_goDrawn 61 = .ok (.goto 4, 3) := by decide +kernel
theorem dX8_goDrawn_64 : decode cX8_goDrawn 64 = .ok (.iconst 0, 1) := by decide +kernel
theorem dX8_goDrawn_65 : decode cX8_goDrawn 65 = .ok (.ior, 1) := by decide +kernel
theorem dX8_goDrawn_66 : decode cX8_goDrawn 66 = .ok (.putfield 260, 3) := by decide +kernel
theorem dX8_goDrawn_69 : decode cX8_goDrawn 69 = .ok (.iinc 5 1, 3) := by decide +kernel
theorem dX8_goDrawn_72 : decode cX8_goDrawn 72 = .ok (.goto (-63), 3) := by decide +kernel
theorem dX8_goDrawn_75 : decode cX8_goDrawn 75 = .ok (.aload_n 0, 1) := by decide +kernel
theorem dX8_goDrawn_76 : decode cX8_goDrawn 76 = .ok (.invokevirtual 289, 3) := by decide +kernel
theorem dX8_goDrawn_79 : decode cX8_goDrawn 79 = .ok (.return_, 1) := by decide +kernel
theorem dX8_isSeed_0 : decode cX8_isSeed 0 = .ok (.iload_n 0, 1) := by decide +kernel
theorem dX8_isSeed_1 : decode cX8_isSeed 1 = .ok (.i2l, 1) := by decide +kernel
theorem dX8_isSeed_2 : decode cX8_isSeed 2 = .ok (.lconst 0, 1) := by decide +kernel
theorem dX8_isSeed_3 : decode cX8_isSeed 3 = .ok (.ldc2_w 487, 3) := by decide +kernel
theorem dX8_isSeed_6 : decode cX8_isSeed 6 = .ok (.invokestatic 94, 3) := by decide +kernel
theorem dX8_isSeed_9 : decode cX8_isSeed 9 = .ok (.ireturn, 1) := by decide +kernel
theorem dX8_drawn_0 : decode cX8_drawn 0 = .ok (.aload_n 0, 1) := by decide +kernel
theorem dX8_drawn_1 : decode cX8_drawn 1 = .ok (.invokevirtual 102, 3) := by decide +kernel
theorem dX8_drawn_4 : decode cX8_drawn 4 = .ok (.ifCond .eq 20, 3) := by decide +kernel
theorem dX8_drawn_7 : decode cX8_drawn 7 = .ok (.iload_n 1, 1) := by decide +kernel
theorem dX8_drawn_8 : decode cX8_drawn 8 = .ok (.invokestatic 489, 3) := by decide +kernel
theorem dX8_drawn_11 : decode cX8_drawn 11 = .ok (.ifCond .eq 13, 3) := by decide +kernel
theorem dX8_drawn_14 : decode cX8_drawn 14 = .ok (.iload_n 2, 1) := by decide +kernel
theorem dX8_drawn_15 : decode cX8_drawn 15 = .ok (.i2l, 1) := by decide +kernel
theorem dX8_drawn_16 : decode cX8_drawn 16 = .ok (.lconst 0, 1) := by decide +kernel
theorem dX8_drawn_17 : decode cX8_drawn 17 = .ok (.lconst 1, 1) := by decide +kernel
theorem dX8_drawn_18 : decode cX8_drawn 18 = .ok (.invokestatic 94, 3) := by decide +kernel
theorem dX8_drawn_21 : decode cX8_drawn 21 = .ok (.ifCond .ne 6, 3) := by decide +kernel
theorem dX8_drawn_24 : decode cX8_drawn 24 = .ok (.bipush (-2), 2) := by decide +kernel
theorem dX8_drawn_26 : decode cX8_drawn 26 = .ok (.ireturn, 1) := by decide +kernel
theorem dX8_drawn_27 : decode cX8_drawn 27 = .ok (.aload_n 0, 1) := by decide +kernel
theorem dX8_drawn_28 : decode cX8_drawn 28 = .ok (.iload_n 1, 1) := by decide +kernel
theorem dX8_drawn_29 : decode cX8_drawn 29 = .ok (.i2l, 1) := by decide +kernel
theorem dX8_drawn_30 : decode cX8_drawn 30 = .ok (.invokevirtual 492, 3) := by decide +kernel
theorem dX8_drawn_33 : decode cX8_drawn 33 = .ok (.iload_n 2, 1) := by decide +kernel
theorem dX8_drawn_34 : decode cX8_drawn 34 = .ok (.ifCond .ne 10, 3) := by decide +kernel
theorem dX8_drawn_37 : decode cX8_drawn 37 = .ok (.aload_n 0, 1) := by decide +kernel
theorem dX8_drawn_38 : decode cX8_drawn 38 = .ok (.getfield 260, 3) := by decide +kernel
theorem dX8_drawn_41 : decode cX8_drawn 41 = .ok (.goto 7, 3) := by decide +kernel
theorem dX8_drawn_44 : decode cX8_drawn 44 = .ok (.aload_n 0, 1) := by decide +kernel
theorem dX8_drawn_45 : decode cX8_drawn 45 = .ok (.invokevirtual 391, 3) := by decide +kernel
theorem dX8_drawn_48 : decode cX8_drawn 48 = .ok (.ireturn, 1) := by decide +kernel
theorem dX8_luck_0 : decode cX8_luck 0 = .ok (.iload_n 1, 1) := by decide +kernel
theorem dX8_luck_1 : decode cX8_luck 1 = .ok (.invokestatic 489, 3) := by decide +kernel
theorem dX8_luck_4 : decode cX8_luck 4 = .ok (.ifCond .eq 24, 3) := by decide +kernel
theorem dX8_luck_7 : decode cX8_luck 7 = .ok (.iload_n 2, 1) := by decide +kernel
theorem dX8_luck_8 : decode cX8_luck 8 = .ok (.i2l, 1) := by decide +kernel
theorem dX8_luck_9 : decode cX8_luck 9 = .ok (.lconst 1, 1) := by decide +kernel
theorem dX8_luck_10 : decode cX8_luck 10 = .ok (.ldc2_w 385, 3) := by decide +kernel
theorem dX8_luck_13 : decode cX8_luck 13 = .ok (.invokestatic 94, 3) := by decide +kernel
theorem dX8_luck_16 : decode cX8_luck 16 = .ok (.ifCond .eq 12, 3) := by decide +kernel
theorem dX8_luck_19 : decode cX8_luck 19 = .ok (.aload_n 0, 1) := by decide +kernel
theorem dX8_luck_20 : decode cX8_luck 20 = .ok (.iload_n 3, 1) := by decide +kernel
theorem dX8_luck_21 : decode cX8_luck 21 = .ok (.i2l, 1) := by decide +kernel
theorem dX8_luck_22 : decode cX8_luck 22 = .ok (.invokevirtual 254, 3) := by decide +kernel
theorem dX8_luck_25 : decode cX8_luck 25 = .ok (.ifCond .ne 6, 3) := by decide +kernel
theorem dX8_luck_28 : decode cX8_luck 28 = .ok (.bipush (-2), 2) := by decide +kernel
theorem dX8_luck_30 : decode cX8_luck 30 = .ok (.ireturn, 1) := by decide +kernel
theorem dX8_luck_31 : decode cX8_luck 31 = .ok (.iconst 0, 1) := by decide +kernel
theorem dX8_luck_32 : decode cX8_luck 32 = .ok (.istore 4, 2) := by decide +kernel
theorem dX8_luck_34 : decode cX8_luck 34 = .ok (.iconst 0, 1) := by decide +kernel
theorem dX8_luck_35 : decode cX8_luck 35 = .ok (.istore 5, 2) := by decide +kernel
theorem dX8_luck_37 : decode cX8_luck 37 = .ok (.iload 5, 2) := by decide +kernel
theorem dX8_luck_39 : decode cX8_luck 39 = .ok (.iload_n 2, 1) := by decide +kernel
theorem dX8_luck_40 : decode cX8_luck 40 = .ok (.if_icmp .ge 41, 3) := by decide +kernel
theorem dX8_luck_43 : decode cX8_luck 43 = .ok (.aload_n 0, 1) := by decide +kernel
theorem dX8_luck_44 : decode cX8_luck 44 = .ok (.iload_n 1, 1) := by decide +kernel
theorem dX8_luck_45 : decode cX8_luck 45 = .ok (.i2l, 1) := by decide +kernel
theorem dX8_luck_46 : decode cX8_luck 46 = .ok (.iload 5, 2) := by decide +kernel
theorem dX8_luck_48 : decode cX8_luck 48 = .ok (.i2l, 1) := by decide +kernel
theorem dX8_luck_49 : decode cX8_luck 49 = .ok (.ladd, 1) := by decide +kernel
theorem dX8_luck_50 : decode cX8_luck 50 = .ok (.invokevirtual 492, 3) := by decide +kernel
theorem dX8_luck_53 : decode cX8_luck 53 = .ok (.iload 4, 2) := by decide +kernel
theorem dX8_luck_55 : decode cX8_luck 55 = .ok (.aload_n 0, 1) := by decide +kernel
theorem dX8_luck_56 : decode cX8_luck 56 = .ok (.iload_n 3, 1) := by decide +kernel
theorem dX8_luck_57 : decode cX8_luck 57 = .ok (.aload_n 0, 1) := by decide +kernel
theorem dX8_luck_58 : decode cX8_luck 58 = .ok (.invokevirtual 106, 3) := by decide +kernel
theorem dX8_luck_61 : decode cX8_luck 61 = .ok (.invokevirtual 323, 3) := by decide +kernel
theorem dX8_luck_64 : decode cX8_luck 64 = .ok (.ifCond .eq 7, 3) := by decide +kernel
theorem dX8_luck_67 : decode cX8_luck 67 = .ok (.iconst 1, 1) := by decide +kernel
theorem dX8_luck_68 : decode cX8_luck 68 = .ok (.goto 4, 3) := by decide +kernel
theorem dX8_luck_71 : decode cX8_luck 71 = .ok (.iconst 0, 1) := by decide +kernel
theorem dX8_luck_72 : decode cX8_luck 72 = .ok (.iadd, 1) := by decide +kernel
theorem dX8_luck_73 : decode cX8_luck 73 = .ok (.istore 4, 2) := by decide +kernel
theorem dX8_luck_75 : decode cX8_luck 75 = .ok (.iinc 5 1, 3) := by decide +kernel
theorem dX8_luck_78 : decode cX8_luck 78 = .ok (.goto (-41), 3) := by decide +kernel
theorem dX8_luck_81 : decode cX8_luck 81 = .ok (.iload 4, 2) := by decide +kernel
theorem dX8_luck_83 : decode cX8_luck 83 = .ok (.ireturn, 1) := by decide +kernel
theorem dX8_rate_0 : decode cX8_rate 0 = .ok (.aload_n 0, 1) := by decide +kernel
theorem dX8_rate_1 : decode cX8_rate 1 = .ok (.iload_n 1, 1) := by decide +kernel
theorem dX8_rate_2 : decode cX8_rate 2 = .ok (.i2l, 1) := by decide +kernel
theorem dX8_rate_3 : decode cX8_rate 3 = .ok (.invokevirtual 118, 3) := by decide +kernel
theorem dX8_rate_6 : decode cX8_rate 6 = .ok (.ifCond .eq 15, 3) := by decide +kernel
theorem dX8_rate_9 : decode cX8_rate 9 = .ok (.iload_n 2, 1) := by decide +kernel
theorem dX8_rate_10 : decode cX8_rate 10 = .ok (.i2l, 1) := by decide +kernel
theorem dX8_rate_11 : decode cX8_rate 11 = .ok (.lconst 0, 1) := by decide +kernel
theorem dX8_rate_12 : decode cX8_rate 12 = .ok (.ldc2_w 496, 3) := by decide +kernel
theorem dX8_rate_15 : decode cX8_rate 15 = .ok (.invokestatic 94, 3) := by decide +kernel
theorem dX8_rate_18 : decode cX8_rate 18 = .ok (.ifCond .ne 6, 3) := by decide +kernel
theorem dX8_rate_21 : decode cX8_rate 21 = .ok (.bipush (-2), 2) := by decide +kernel
theorem dX8_rate_23 : decode cX8_rate 23 = .ok (.ireturn, 1) := by decide +kernel
theorem dX8_rate_24 : decode cX8_rate 24 = .ok (.aload_n 0, 1) := by decide +kernel
theorem dX8_rate_25 : decode cX8_rate 25 = .ok (.getfield 9, 3) := by decide +kernel
theorem dX8_rate_28 : decode cX8_rate 28 = .ok (.bipush 8, 2) := by decide +kernel
theorem dX8_rate_30 : decode cX8_rate 30 = .ok (.iaload, 1) := by decide +kernel
theorem dX8_rate_31 : decode cX8_rate 31 = .ok (.ifCond .le 6, 3) := by decide +kernel
theorem dX8_rate_34 : decode cX8_rate 34 = .ok (.bipush (-5), 2) := by decide +kernel
theorem dX8_rate_36 : decode cX8_rate 36 = .ok (.ireturn, 1) := by decide +kernel
theorem dX8_rate_37 : decode cX8_rate 37 = .ok (.aload_n 0, 1) := by decide +kernel
theorem dX8_rate_38 : decode cX8_rate 38 = .ok (.getfield 9, 3) := by decide +kernel
theorem dX8_rate_41 : decode cX8_rate 41 = .ok (.bipush 10, 2) := by decide +kernel
theorem dX8_rate_43 : decode cX8_rate 43 = .ok (.iload_n 1, 1) := by decide +kernel
theorem dX8_rate_44 : decode cX8_rate 44 = .ok (.iadd, 1) := by decide +kernel
theorem dX8_rate_45 : decode cX8_rate 45 = .ok (.iaload, 1) := by decide +kernel
theorem dX8_rate_46 : decode cX8_rate 46 = .ok (.istore_n 3, 1) := by decide +kernel
theorem dX8_rate_47 : decode cX8_rate 47 = .ok (.aload_n 0, 1) := by decide +kernel
theorem dX8_rate_48 : decode cX8_rate 48 = .ok (.getfield 9, 3) := by decide +kernel
theorem dX8_rate_51 : decode cX8_rate 51 = .ok (.bipush 10, 2) := by decide +kernel
theorem dX8_rate_53 : decode cX8_rate 53 = .ok (.iload_n 1, 1) := by decide +kernel
theorem dX8_rate_54 : decode cX8_rate 54 = .ok (.iadd, 1) := by decide +kernel
theorem dX8_rate_55 : decode cX8_rate 55 = .ok (.iload_n 2, 1) := by decide +kernel
theorem dX8_rate_56 : decode cX8_rate 56 = .ok (.iastore, 1) := by decide +kernel
theorem dX8_rate_57 : decode cX8_rate 57 = .ok (.iload_n 3, 1) := by decide +kernel
theorem dX8_rate_58 : decode cX8_rate 58 = .ok (.ireturn, 1) := by decide +kernel
theorem dX8_count_0 : decode cX8_count 0 = .ok (.iload_n 1, 1) := by decide +kernel
theorem dX8_count_1 : decode cX8_count 1 = .ok (.i2l, 1) := by decide +kernel
theorem dX8_count_2 : decode cX8_count 2 = .ok (.lconst 0, 1) := by decide +kernel
theorem dX8_count_3 : decode cX8_count 3 = .ok (.ldc2_w 496, 3) := by decide +kernel
theorem dX8_count_6 : decode cX8_count 6 = .ok (.invokestatic 94, 3) := by decide +kernel
theorem dX8_count_9 : decode cX8_count 9 = .ok (.ifCond .eq 10, 3) := by decide +kernel
theorem dX8_count_12 : decode cX8_count 12 = .ok (.aload_n 0, 1) := by decide +kernel
theorem dX8_count_13 : decode cX8_count 13 = .ok (.getfield 9, 3) := by decide +kernel
theorem dX8_count_16 : decode cX8_count 16 = .ok (.iload_n 1, 1) := by decide +kernel
theorem dX8_count_17 : decode cX8_count 17 = .ok (.iaload, 1) := by decide +kernel
theorem dX8_count_18 : decode cX8_count 18 = .ok (.ireturn, 1) := by decide +kernel
theorem dX8_count_19 : decode cX8_count 19 = .ok (.iload_n 1, 1) := by decide +kernel
theorem dX8_count_20 : decode cX8_count 20 = .ok (.bipush 10, 2) := by decide +kernel
theorem dX8_count_22 : decode cX8_count 22 = .ok (.if_icmp .ne 8, 3) := by decide +kernel
theorem dX8_count_25 : decode cX8_count 25 = .ok (.aload_n 0, 1) := by decide +kernel
theorem dX8_count_26 : decode cX8_count 26 = .ok (.getfield 121, 3) := by decide +kernel
theorem dX8_count_29 : decode cX8_count 29 = .ok (.ireturn, 1) := by decide +kernel
theorem dX8_count_30 : decode cX8_count 30 = .ok (.iload_n 1, 1) := by decide +kernel
theorem dX8_count_31 : decode cX8_count 31 = .ok (.bipush 11, 2) := by decide +kernel
theorem dX8_count_33 : decode cX8_count 33 = .ok (.if_icmp .eq 5, 3) := by decide +kernel
theorem dX8_count_36 : decode cX8_count 36 = .ok (.iconst (-1), 1) := by decide +kernel
theorem dX8_count_37 : decode cX8_count 37 = .ok (.ireturn, 1) := by decide +kernel
theorem dX8_count_38 : decode cX8_count 38 = .ok (.iconst 0, 1) := by decide +kernel
theorem dX8_count_39 : decode cX8_count 39 = .ok (.istore_n 2, 1) := by decide +kernel
theorem dX8_count_40 : decode cX8_count 40 = .ok (.iconst 0, 1) := by decide +kernel
theorem dX8_count_41 : decode cX8_count 41 = .ok (.istore_n 3, 1) := by decide +kernel
theorem dX8_count_42 : decode cX8_count 42 = .ok (.iload_n 3, 1) := by decide +kernel
theorem dX8_count_43 : decode cX8_count 43 = .ok (.iconst 4, 1) := by decide +kernel
theorem dX8_count_44 : decode cX8_count 44 = .ok (.if_icmp .ge 27, 3) := by decide +kernel
theorem dX8_count_47 : decode cX8_count 47 = .ok (.iload_n 2, 1) := by decide +kernel
theorem dX8_count_48 : decode cX8_count 48 = .ok (.aload_n 0, 1) := by decide +kernel
theorem dX8_count_49 : decode cX8_count 49 = .ok (.getfield 76, 3) := by decide +kernel
theorem dX8_count_52 : decode cX8_count 52 = .ok (.iload_n 3, 1) := by decide +kernel
theorem dX8_count_53 : decode cX8_count 53 = .ok (.iaload, 1) := by decide +kernel
theorem dX8_count_54 : decode cX8_count 54 = .ok (.iconst (-1), 1) := by decide +kernel
theorem dX8_count_55 : decode cX8_count 55 = .ok (.if_icmp .ne 7, 3) := by decide +kernel
theorem dX8_count_58 : decode cX8_count 58 = .ok (.iconst 0, 1) := by decide +kernel
theorem dX8_count_59 : decode cX8_count 59 = .ok (.goto 4, 3) := by decide +kernel
theorem dX8_count_62 : decode cX8_count 62 = .ok (.iconst 1, 1) := by decide +kernel
theorem dX8_count_63 : decode cX8_count 63 = .ok (.iadd, 1) := by decide +kernel
theorem dX8_count_64 : decode cX8_count 64 = .ok (.istore_n 2, 1) := by decide +kernel
theorem dX8_count_65 : decode cX8_count 65 = .ok (.iinc 3 1, 3) := by decide +kernel
theorem dX8_count_68 : decode cX8_count 68 = .ok (.goto (-26), 3) := by decide +kernel
theorem dX8_count_71 : decode cX8_count 71 = .ok (.iload_n 2, 1) := by decide +kernel
theorem dX8_count_72 : decode cX8_count 72 = .ok (.ireturn, 1) := by decide +kernel
theorem wd878 : Cond.methodLink RX8 447 yX8_factorial ∈ tblG := gw9 15 (by decide +kernel) (by decide +kernel)
theorem wd879 : Cond.static yX8_factorial ∈ tblG := gw9 16 (by decide +kernel) (by decide +kernel)
theorem wd880 : Cond.code yX8_factorial cX8_factorial 3 (some .int) ∈ tblG := gw9 17 (by decide +kernel) (by decide +kernel)
theorem pl_X8_factorial : Plain yX8_factorial 1 := ⟨by decide, by decide, by decide +kernel⟩
theorem lk_X8_447 : LkS RX8 447 yX8_factorial cX8_factorial 3 (some .int) 1 := ⟨wd878, wd879, wd649, wd880, pl_X8_factorial⟩
theorem wd881 : Cond.methodLink RX8 450 yX8_part ∈ tblG := gw9 18 (by decide +kernel) (by decide +kernel)
theorem wd882 : Cond.static yX8_part ∈ tblG := gw9 19 (by decide +kernel) (by decide +kernel)
theorem wd883 : Cond.code yX8_part cX8_part 5 (some .long) ∈ tblG := gw9 20 (by decide +kernel) (by decide +kernel)
theorem pl_X8_part : Plain yX8_part 3 := ⟨by decide, by decide, by decide +kernel⟩
theorem lk_X8_450 : LkS RX8 450 yX8_part cX8_part 5 (some .long) 3 := ⟨wd881, wd882, wd649, wd883, pl_X8_part⟩
theorem wd884 : Cond.fieldLink RX8 73 RX8 "worthBy" "[I" ∈ tblG := gw6 67 (by decide +kernel) (by decide +kernel)
theorem fk_X8_73 : FLk RX8 73 8 33 (.array .int) true := ⟨RX8, TX8, 41, tyX8, clX8, by decide, rfl, rfl, rfl, Or.inl wd884⟩
theorem wd885 : Cond.methodLink RX8 454 yX8_getsBy ∈ tblG := gw9 29 (by decide +kernel) (by decide +kernel)
theorem wd886 : Cond.instanceMethod yX8_getsBy ∈ tblG := gw9 31 (by decide +kernel) (by decide +kernel)
theorem wd887 : Cond.selects RX8 yX8_getsBy yX8_getsBy ∈ tblG := gw0 120 (by decide +kernel) (by decide +kernel)
theorem wd888 : Cond.code yX8_getsBy cX8_getsBy 7 (some .int) ∈ tblG := gw9 32 (by decide +kernel) (by decide +kernel)
theorem pl_X8_getsBy : Plain yX8_getsBy 5 := ⟨by decide, by decide, by decide +kernel⟩
theorem lk_X8_454 : LkV RX8 454 8 yX8_getsBy cX8_getsBy 7 (some .int) 5 := ⟨⟨TX8, 41, rfl⟩, wd885, wd886, wd887, wd649, wd888, pl_X8_getsBy⟩
theorem wd889 : Cond.methodLink RX8 476 yX8_keepAct ∈ tblG := gw9 58 (by decide +kernel) (by decide +kernel)
theorem wd890 : Cond.instanceMethod yX8_keepAct ∈ tblG := gw9 60 (by decide +kernel) (by decide +kernel)
theorem wd891 : Cond.selects RX8 yX8_keepAct yX8_keepAct ∈ tblG := gw0 123 (by decide +kernel) (by decide +kernel)
theorem wd892 : Cond.code yX8_keepAct cX8_keepAct 2 (some .boolean) ∈ tblG := gw9 61 (by decide +kernel) (by decide +kernel)
theorem pl_X8_keepAct : Plain yX8_keepAct 1 := ⟨by decide, by decide, by decide +kernel⟩
theorem lk_X8_476 : LkV RX8 476 8 yX8_keepAct cX8_keepAct 2 (some .boolean) 1 := ⟨⟨TX8, 41, rfl⟩, wd889, wd890, wd891, wd649, wd892, pl_X8_keepAct⟩
theorem wd893 : Cond.constantLong RX8 479 (1103515245) ∈ tblG := gw9 86 (by decide +kernel) (by decide +kernel)
theorem wd894 : Cond.constantLong RX8 481 (12345) ∈ tblG := gw9 87 (by decide +kernel) (by decide +kernel)
theorem wd895 : Cond.constantLong RX8 483 (2147483648) ∈ tblG := gw9 88 (by decide +kernel) (by decide +kernel)
theorem wd896 : Cond.constantLong RX8 485 (65536) ∈ tblG := gw9 89 (by decide +kernel) (by decide +kernel)
theorem wd897 : Cond.constantLong RX8 487 (2000000000) ∈ tblG := gw9 81 (by decide +kernel) (by decide +kernel)
theorem wd898 : Cond.methodLink RX8 489 yX8_isSeed ∈ tblG := gw9 78 (by decide +kernel) (by decide +kernel)
theorem wd899 : Cond.static yX8_isSeed ∈ tblG := gw9 79 (by decide +kernel) (by decide +kernel)
theorem wd900 : Cond.code yX8_isSeed cX8_isSeed 1 (some .boolean) ∈ tblG := gw9 80 (by decide +kernel) (by decide +kernel)
theorem pl_X8_isSeed : Plain yX8_isSeed 1 := ⟨by decide, by decide, by decide +kernel⟩
theorem lk_X8_489 : LkS RX8 489 yX8_isSeed cX8_isSeed 1 (some .boolean) 1 := ⟨wd898, wd899, wd649, wd900, pl_X8_isSeed⟩
theorem wd901 : Cond.methodLink RX8 492 yX8_goDrawn ∈ tblG := gw9 82 (by decide +kernel) (by decide +kernel)
theorem wd902 : Cond.instanceMethod yX8_goDrawn ∈ tblG := gw9 84 (by decide +kernel) (by decide +kernel)
theorem wd903 : Cond.selects RX8 yX8_goDrawn yX8_goDrawn ∈ tblG := gw0 124 (by decide +kernel) (by decide +kernel)
theorem wd904 : Cond.code yX8_goDrawn cX8_goDrawn 6 none ∈ tblG := gw9 85 (by decide +kernel) (by decide +kernel)
theorem pl_X8_goDrawn : Plain yX8_goDrawn 1 := ⟨by decide, by decide, by decide +kernel⟩
theorem lk_X8_492 : LkV RX8 492 8 yX8_goDrawn cX8_goDrawn 6 none 1 := ⟨⟨TX8, 41, rfl⟩, wd901, wd902, wd903, wd649, wd904, pl_X8_goDrawn⟩
theorem wd905 : Cond.constantLong RX8 496 (9) ∈ tblG := gw9 98 (by decide +kernel) (by decide +kernel)
theorem wd906 : Cond.fieldLink RX8 76 RX8 "many" "[I" ∈ tblG := gw6 71 (by decide +kernel) (by decide +kernel)
theorem fk_X8_76 : FLk RX8 76 8 37 (.array .int) true := ⟨RX8, TX8, 41, tyX8, clX8, by decide, rfl, rfl, rfl, Or.inl wd906⟩
theorem wd907 : Cond.fieldLink RX8 121 RX8 "taped" "I" ∈ tblG := gw6 39 (by decide +kernel) (by decide +kernel)
theorem fk_X8_121 : FLk RX8 121 8 5 (.int) false := ⟨RX8, TX8, 41, tyX8, clX8, by decide, rfl, rfl, rfl, Or.inl wd907⟩
theorem wd908 : Cond.fieldLink RX8 458 RX8 "oftenAll" "J" ∈ tblG := gw6 68 (by decide +kernel) (by decide +kernel)
theorem fk_X8_458 : FLk RX8 458 8 34 (.long) false := ⟨RX8, TX8, 41, tyX8, clX8, by decide, rfl, rfl, rfl, Or.inl wd908⟩
theorem wd909 : Cond.fieldLink RX8 462 RX8 "oftenInside" "J" ∈ tblG := gw6 69 (by decide +kernel) (by decide +kernel)
theorem fk_X8_462 : FLk RX8 462 8 35 (.long) false := ⟨RX8, TX8, 41, tyX8, clX8, by decide, rfl, rfl, rfl, Or.inl wd909⟩
theorem wd910 : Cond.fieldLink RX8 465 RX8 "oftenMany" "J" ∈ tblG := gw6 70 (by decide +kernel) (by decide +kernel)
theorem fk_X8_465 : FLk RX8 465 8 36 (.long) false := ⟨RX8, TX8, 41, tyX8, clX8, by decide, rfl, rfl, rfl, Or.inl wd910⟩
theorem wd911 : Cond.constantLong RX8 471 (-2) ∈ tblG := gw9 45 (by decide +kernel) (by decide +kernel)
theorem wd912 : Cond.methodLink RX8 468 yX8_isFog ∈ tblG := gw9 41 (by decide +kernel) (by decide +kernel)
theorem wd913 : Cond.instanceMethod yX8_isFog ∈ tblG := gw9 43 (by decide +kernel) (by decide +kernel)
theorem wd914 : Cond.selects RX8 yX8_isFog yX8_isFog ∈ tblG := gw0 121 (by decide +kernel) (by decide +kernel)
theorem wd915 : Cond.code yX8_isFog cX8_isFog 3 (some .boolean) ∈ tblG := gw9 44 (by decide +kernel) (by decide +kernel)
theorem pl_X8_isFog : Plain yX8_isFog 2 := ⟨by decide, by decide, by decide +kernel⟩
theorem lk_X8_468 : LkV RX8 468 8 yX8_isFog cX8_isFog 3 (some .boolean) 2 := ⟨⟨TX8, 41, rfl⟩, wd912, wd913, wd914, wd649, wd915, pl_X8_isFog⟩
theorem wd916 : Cond.methodLink RX8 473 yX8_layFog ∈ tblG := gw9 46 (by decide +kernel) (by decide +kernel)
theorem wd917 : Cond.instanceMethod yX8_layFog ∈ tblG := gw9 48 (by decide +kernel) (by decide +kernel)
theorem wd918 : Cond.selects RX8 yX8_layFog yX8_layFog ∈ tblG := gw0 122 (by decide +kernel) (by decide +kernel)
theorem wd919 : Cond.code yX8_layFog cX8_layFog 7 none ∈ tblG := gw9 49 (by decide +kernel) (by decide +kernel)
theorem pl_X8_layFog : Plain yX8_layFog 2 := ⟨by decide, by decide, by decide +kernel⟩
theorem lk_X8_473 : LkV RX8 473 8 yX8_layFog cX8_layFog 7 none 2 := ⟨⟨TX8, 41, rfl⟩, wd916, wd917, wd918, wd649, wd919, pl_X8_layFog⟩
