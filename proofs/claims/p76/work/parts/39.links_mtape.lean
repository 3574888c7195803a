theorem dX8_feed_0 : decode cX8_feed 0 = .ok (.aload_n 0, 1) := by decide +kernel
theorem dX8_feed_1 : decode cX8_feed 1 = .ok (.getfield 121, 3) := by decide +kernel
theorem dX8_feed_4 : decode cX8_feed 4 = .ok (.bipush 20, 2) := by decide +kernel
theorem dX8_feed_6 : decode cX8_feed 6 = .ok (.iadd, 1) := by decide +kernel
theorem dX8_feed_7 : decode cX8_feed 7 = .ok (.sipush 800, 3) := by decide +kernel
theorem dX8_feed_10 : decode cX8_feed 10 = .ok (.if_icmp .le 5, 3) := by decide +kernel
theorem dX8_feed_13 : decode cX8_feed 13 = .ok (.iconst (-1), 1) := by decide +kernel
theorem dX8_feed_14 : decode cX8_feed 14 = .ok (.ireturn, 1) := by decide +kernel
theorem dX8_feed_15 : decode cX8_feed 15 = .ok (.aload_n 0, 1) := by decide +kernel
theorem dX8_feed_16 : decode cX8_feed 16 = .ok (.getfield 24, 3) := by decide +kernel
theorem dX8_feed_19 : decode cX8_feed 19 = .ok (.iconst 0, 1) := by decide +kernel
theorem dX8_feed_20 : decode cX8_feed 20 = .ok (.iload_n 1, 1) := by decide +kernel
theorem dX8_feed_21 : decode cX8_feed 21 = .ok (.iastore, 1) := by decide +kernel
theorem dX8_feed_22 : decode cX8_feed 22 = .ok (.aload_n 0, 1) := by decide +kernel
theorem dX8_feed_23 : decode cX8_feed 23 = .ok (.getfield 24, 3) := by decide +kernel
theorem dX8_feed_26 : decode cX8_feed 26 = .ok (.iconst 1, 1) := by decide +kernel
theorem dX8_feed_27 : decode cX8_feed 27 = .ok (.iload_n 2, 1) := by decide +kernel
theorem dX8_feed_28 : decode cX8_feed 28 = .ok (.iastore, 1) := by decide +kernel
theorem dX8_feed_29 : decode cX8_feed 29 = .ok (.aload_n 0, 1) := by decide +kernel
theorem dX8_feed_30 : decode cX8_feed 30 = .ok (.getfield 24, 3) := by decide +kernel
theorem dX8_feed_33 : decode cX8_feed 33 = .ok (.iconst 2, 1) := by decide +kernel
theorem dX8_feed_34 : decode cX8_feed 34 = .ok (.iload_n 3, 1) := by decide +kernel
theorem dX8_feed_35 : decode cX8_feed 35 = .ok (.iastore, 1) := by decide +kernel
theorem dX8_feed_36 : decode cX8_feed 36 = .ok (.aload_n 0, 1) := by decide +kernel
theorem dX8_feed_37 : decode cX8_feed 37 = .ok (.getfield 24, 3) := by decide +kernel
theorem dX8_feed_40 : decode cX8_feed 40 = .ok (.iconst 3, 1) := by decide +kernel
theorem dX8_feed_41 : decode cX8_feed 41 = .ok (.iload 4, 2) := by decide +kernel
theorem dX8_feed_43 : decode cX8_feed 43 = .ok (.iastore, 1) := by decide +kernel
theorem dX8_feed_44 : decode cX8_feed 44 = .ok (.aload_n 0, 1) := by decide +kernel
theorem dX8_feed_45 : decode cX8_feed 45 = .ok (.getfield 24, 3) := by decide +kernel
theorem dX8_feed_48 : decode cX8_feed 48 = .ok (.iconst 4, 1) := by decide +kernel
theorem dX8_feed_49 : decode cX8_feed 49 = .ok (.iload 5, 2) := by decide +kernel
theorem dX8_feed_51 : decode cX8_feed 51 = .ok (.iastore, 1) := by decide +kernel
theorem dX8_feed_52 : decode cX8_feed 52 = .ok (.iconst 0, 1) := by decide +kernel
theorem dX8_feed_53 : decode cX8_feed 53 = .ok (.istore 6, 2) := by decide +kernel
theorem dX8_feed_55 : decode cX8_feed 55 = .ok (.iload 6, 2) := by decide +kernel
theorem dX8_feed_57 : decode cX8_feed 57 = .ok (.bipush 20, 2) := by decide +kernel
theorem dX8_feed_59 : decode cX8_feed 59 = .ok (.if_icmp .ge 42, 3) := by decide +kernel
theorem dX8_feed_62 : decode cX8_feed 62 = .ok (.aload_n 0, 1) := by decide +kernel
theorem dX8_feed_63 : decode cX8_feed 63 = .ok (.getfield 20, 3) := by decide +kernel
theorem dX8_feed_66 : decode cX8_feed 66 = .ok (.aload_n 0, 1) := by decide +kernel
theorem dX8_feed_67 : decode cX8_feed 67 = .ok (.getfield 121, 3) := by decide +kernel
theorem dX8_feed_70 : decode cX8_feed 70 = .ok (.iload 6, 2) := by decide +kernel
theorem dX8_feed_72 : decode cX8_feed 72 = .ok (.iadd, 1) := by decide +kernel
theorem dX8_feed_73 : decode cX8_feed 73 = .ok (.aload_n 0, 1) := by decide +kernel
theorem dX8_feed_74 : decode cX8_feed 74 = .ok (.getfield 24, 3) := by decide +kernel
theorem dX8_feed_77 : decode cX8_feed 77 = .ok (.iload 6, 2) := by decide +kernel
theorem dX8_feed_79 : decode cX8_feed 79 = .ok (.iconst 4, 1) := by decide +kernel
theorem dX8_feed_80 : decode cX8_feed 80 = .ok (.idiv, 1) := by decide +kernel
theorem dX8_feed_81 : decode cX8_feed 81 = .ok (.iaload, 1) := by decide +kernel
theorem dX8_feed_82 : decode cX8_feed 82 = .ok (.bipush 24, 2) := by decide +kernel
theorem dX8_feed_84 : decode cX8_feed 84 = .ok (.bipush 8, 2) := by decide +kernel
theorem dX8_feed_86 : decode cX8_feed 86 = .ok (.iload 6, 2) := by decide +kernel
theorem dX8_feed_88 : decode cX8_feed 88 = .ok (.iconst 4, 1) := by decide +kernel
theorem dX8_feed_89 : decode cX8_feed 89 = .ok (.irem, 1) := by decide +kernel
theorem dX8_feed_90 : decode cX8_feed 90 = .ok (.imul, 1) := by decide +kernel
theorem dX8_feed_91 : decode cX8_feed 91 = .ok (.isub, 1) := by decide +kernel
theorem dX8_feed_92 : decode cX8_feed 92 = .ok (.ishr, 1) := by decide +kernel
theorem dX8_feed_93 : decode cX8_feed 93 = .ok (.i2b, 1) := by decide +kernel
theorem dX8_feed_94 : decode cX8_feed 94 = .ok (.bastore, 1) := by decide +kernel
theorem dX8_feed_95 : decode cX8_feed 95 = .ok (.iinc 6 1, 3) := by decide +kernel
theorem dX8_feed_98 : decode cX8_feed 98 = .ok (.goto (-43), 3) := by decide +kernel
theorem dX8_feed_101 : decode cX8_feed 101 = .ok (.aload_n 0, 1) := by decide +kernel
theorem dX8_feed_102 : decode cX8_feed 102 = .ok (.dup, 1) := by decide +kernel
theorem dX8_feed_103 : decode cX8_feed 103 = .ok (.getfield 121, 3) := by decide +kernel
theorem dX8_feed_106 : decode cX8_feed 106 = .ok (.bipush 20, 2) := by decide +kernel
theorem dX8_feed_108 : decode cX8_feed 108 = .ok (.iadd, 1) := by decide +kernel
theorem dX8_feed_109 : decode cX8_feed 109 = .ok (.putfield 121, 3) := by decide +kernel
theorem dX8_feed_112 : decode cX8_feed 112 = .ok (.aload_n 0, 1) := by decide +kernel
theorem dX8_feed_113 : decode cX8_feed 113 = .ok (.getfield 121, 3) := by decide +kernel
theorem dX8_feed_116 : decode cX8_feed 116 = .ok (.ireturn, 1) := by decide +kernel
theorem dX8_end_0 : decode cX8_end 0 = .ok (.iload_n 1, 1) := by decide +kernel
theorem dX8_end_1 : decode cX8_end 1 = .ok (.i2l, 1) := by decide +kernel
theorem dX8_end_2 : decode cX8_end 2 = .ok (.lconst 0, 1) := by decide +kernel
theorem dX8_end_3 : decode cX8_end 3 = .ok (.aload_n 0, 1) := by decide +kernel
theorem dX8_end_4 : decode cX8_end 4 = .ok (.getfield 121, 3) := by decide +kernel
theorem dX8_end_7 : decode cX8_end 7 = .ok (.i2l, 1) := by decide +kernel
theorem dX8_end_8 : decode cX8_end 8 = .ok (.invokestatic 94, 3) := by decide +kernel
theorem dX8_end_11 : decode cX8_end 11 = .ok (.ifCond .ne 5, 3) := by decide +kernel
theorem dX8_end_14 : decode cX8_end 14 = .ok (.iconst (-1), 1) := by decide +kernel
theorem dX8_end_15 : decode cX8_end 15 = .ok (.ireturn, 1) := by decide +kernel
theorem dX8_end_16 : decode cX8_end 16 = .ok (.aload_n 0, 1) := by decide +kernel
theorem dX8_end_17 : decode cX8_end 17 = .ok (.iload_n 1, 1) := by decide +kernel
theorem dX8_end_18 : decode cX8_end 18 = .ok (.putfield 121, 3) := by decide +kernel
theorem dX8_end_21 : decode cX8_end 21 = .ok (.iload_n 1, 1) := by decide +kernel
theorem dX8_end_22 : decode cX8_end 22 = .ok (.ireturn, 1) := by decide +kernel
theorem dX8_see_0 : decode cX8_see 0 = .ok (.iload_n 1, 1) := by decide +kernel
theorem dX8_see_1 : decode cX8_see 1 = .ok (.aload_n 0, 1) := by decide +kernel
theorem dX8_see_2 : decode cX8_see 2 = .ok (.getfield 124, 3) := by decide +kernel
theorem dX8_see_5 : decode cX8_see 5 = .ok (.if_icmp .ge 16, 3) := by decide +kernel
theorem dX8_see_8 : decode cX8_see 8 = .ok (.aload_n 0, 1) := by decide +kernel
theorem dX8_see_9 : decode cX8_see 9 = .ok (.getfield 20, 3) := by decide +kernel
theorem dX8_see_12 : decode cX8_see 12 = .ok (.iload_n 1, 1) := by decide +kernel
theorem dX8_see_13 : decode cX8_see 13 = .ok (.baload, 1) := by decide +kernel
theorem dX8_see_14 : decode cX8_see 14 = .ok (.sipush 255, 3) := by decide +kernel
theorem dX8_see_17 : decode cX8_see 17 = .ok (.iand, 1) := by decide +kernel
theorem dX8_see_18 : decode cX8_see 18 = .ok (.goto 4, 3) := by decide +kernel
theorem dX8_see_21 : decode cX8_see 21 = .ok (.iconst (-1), 1) := by decide +kernel
theorem dX8_see_22 : decode cX8_see 22 = .ok (.ireturn, 1) := by decide +kernel
theorem dX8_advance_0 : decode cX8_advance 0 = .ok (.aload_n 0, 1) := by decide +kernel
theorem dX8_advance_1 : decode cX8_advance 1 = .ok (.aload_n 0, 1) := by decide +kernel
theorem dX8_advance_2 : decode cX8_advance 2 = .ok (.getfield 127, 3) := by decide +kernel
theorem dX8_advance_5 : decode cX8_advance 5 = .ok (.invokevirtual 130, 3) := by decide +kernel
theorem dX8_advance_8 : decode cX8_advance 8 = .ok (.bipush 32, 2) := by decide +kernel
theorem dX8_advance_10 : decode cX8_advance 10 = .ok (.if_icmp .eq 16, 3) := by decide +kernel
theorem dX8_advance_13 : decode cX8_advance 13 = .ok (.aload_n 0, 1) := by decide +kernel
theorem dX8_advance_14 : decode cX8_advance 14 = .ok (.aload_n 0, 1) := by decide +kernel
theorem dX8_advance_15 : decode cX8_advance 15 = .ok (.getfield 127, 3) := by decide +kernel
theorem dX8_advance_18 : decode cX8_advance 18 = .ok (.invokevirtual 130, 3) := by decide +kernel
theorem dX8_advance_21 : decode cX8_advance 21 = .ok (.bipush 10, 2) := by decide +kernel
theorem dX8_advance_23 : decode cX8_advance 23 = .ok (.if_icmp .ne 16, 3) := by decide +kernel
theorem dX8_advance_26 : decode cX8_advance 26 = .ok (.aload_n 0, 1) := by decide +kernel
theorem dX8_advance_27 : decode cX8_advance 27 = .ok (.dup, 1) := by decide +kernel
theorem dX8_advance_28 : decode cX8_advance 28 = .ok (.getfield 127, 3) := by decide +kernel
theorem dX8_advance_31 : decode cX8_advance 31 = .ok (.iconst 1, 1) := by decide +kernel
theorem dX8_advance_32 : decode cX8_advance 32 = .ok (.iadd, 1) := by decide +kernel
theorem dX8_advance_33 : decode cX8_advance 33 = .ok (.putfield 127, 3) := by decide +kernel
theorem dX8_advance_36 : decode cX8_advance 36 = .ok (.goto (-36), 3) := by decide +kernel
theorem dX8_advance_39 : decode cX8_advance 39 = .ok (.aload_n 0, 1) := by decide +kernel
theorem dX8_advance_40 : decode cX8_advance 40 = .ok (.aload_n 0, 1) := by decide +kernel
theorem dX8_advance_41 : decode cX8_advance 41 = .ok (.getfield 127, 3) := by decide +kernel
theorem dX8_advance_44 : decode cX8_advance 44 = .ok (.putfield 134, 3) := by decide +kernel
theorem dX8_advance_47 : decode cX8_advance 47 = .ok (.aload_n 0, 1) := by decide +kernel
theorem dX8_advance_48 : decode cX8_advance 48 = .ok (.aload_n 0, 1) := by decide +kernel
theorem dX8_advance_49 : decode cX8_advance 49 = .ok (.getfield 127, 3) := by decide +kernel
theorem dX8_advance_52 : decode cX8_advance 52 = .ok (.invokevirtual 130, 3) := by decide +kernel
theorem dX8_advance_55 : decode cX8_advance 55 = .ok (.istore_n 1, 1) := by decide +kernel
theorem dX8_advance_56 : decode cX8_advance 56 = .ok (.iload_n 1, 1) := by decide +kernel
theorem dX8_advance_57 : decode cX8_advance 57 = .ok (.iconst (-1), 1) := by decide +kernel
theorem dX8_advance_58 : decode cX8_advance 58 = .ok (.if_icmp .ne 11, 3) := by decide +kernel
theorem dX8_advance_61 : decode cX8_advance 61 = .ok (.aload_n 0, 1) := by decide +kernel
theorem dX8_advance_62 : decode cX8_advance 62 = .ok (.iconst 0, 1) := by decide +kernel
theorem dX8_advance_63 : decode cX8_advance 63 = .ok (.putfield 137, 3) := by decide +kernel
theorem dX8_advance_66 : decode cX8_advance 66 = .ok (.goto 173, 3) := by decide +kernel
theorem dX8_advance_69 : decode cX8_advance 69 = .ok (.iload_n 1, 1) := by decide +kernel
theorem dX8_advance_70 : decode cX8_advance 70 = .ok (.i2l, 1) := by decide +kernel
theorem dX8_advance_71 : decode cX8_advance 71 = .ok (.ldc2_w 140, 3) := by decide +kernel
theorem dX8_advance_74 : decode cX8_advance 74 = .ok (.ldc2_w 142, 3) := by decide +kernel
theorem dX8_advance_77 : decode cX8_advance 77 = .ok (.invokestatic 94, 3) := by decide +kernel
theorem dX8_advance_80 : decode cX8_advance 80 = .ok (.ifCond .eq 45, 3) := by decide +kernel
theorem dX8_advance_83 : decode cX8_advance 83 = .ok (.aload_n 0, 1) := by decide +kernel
theorem dX8_advance_84 : decode cX8_advance 84 = .ok (.aload_n 0, 1) := by decide +kernel
theorem dX8_advance_85 : decode cX8_advance 85 = .ok (.getfield 127, 3) := by decide +kernel
theorem dX8_advance_88 : decode cX8_advance 88 = .ok (.invokevirtual 130, 3) := by decide +kernel
theorem dX8_advance_91 : decode cX8_advance 91 = .ok (.i2l, 1) := by decide +kernel
theorem dX8_advance_92 : decode cX8_advance 92 = .ok (.ldc2_w 140, 3) := by decide +kernel
theorem dX8_advance_95 : decode cX8_advance 95 = .ok (.ldc2_w 142, 3) := by decide +kernel
theorem dX8_advance_98 : decode cX8_advance 98 = .ok (.invokestatic 94, 3) := by decide +kernel
theorem dX8_advance_101 : decode cX8_advance 101 = .ok (.ifCond .eq 16, 3) := by decide +kernel
theorem dX8_advance_104 : decode cX8_advance 104 = .ok (.aload_n 0, 1) := by decide +kernel
theorem dX8_advance_105 : decode cX8_advance 105 = .ok (.dup, 1) := by decide +kernel
theorem dX8_advance_106 : decode cX8_advance 106 = .ok (.getfield 127, 3) := by decide +kernel
theorem dX8_advance_109 : decode cX8_advance 109 = .ok (.iconst 1, 1) := by decide +kernel
theorem dX8_advance_110 : decode cX8_advance 110 = .ok (.iadd, 1) := by decide +kernel
theorem dX8_advance_111 : decode cX8_advance 111 = .ok (.putfield 127, 3) := by decide +kernel
theorem dX8_advance_114 : decode cX8_advance 114 = .ok (.goto (-31), 3) := by decide +kernel
theorem dX8_advance_117 : decode cX8_advance 117 = .ok (.aload_n 0, 1) := by decide +kernel
theorem dX8_advance_118 : decode cX8_advance 118 = .ok (.iconst 1, 1) := by decide +kernel
theorem dX8_advance_119 : decode cX8_advance 119 = .ok (.putfield 137, 3) := by decide +kernel
theorem dX8_advance_122 : decode cX8_advance 122 = .ok (.goto 117, 3) := by decide +kernel
theorem dX8_advance_125 : decode cX8_advance 125 = .ok (.iload_n 1, 1) := by decide +kernel
theorem dX8_advance_126 : decode cX8_advance 126 = .ok (.i2l, 1) := by decide +kernel
theorem dX8_advance_127 : decode cX8_advance 127 = .ok (.ldc2_w 144, 3) := by decide +kernel
theorem dX8_advance_130 : decode cX8_advance 130 = .ok (.ldc2_w 146, 3) := by decide +kernel
theorem dX8_advance_133 : decode cX8_advance 133 = .ok (.invokestatic 94, 3) := by decide +kernel
theorem dX8_advance_136 : decode cX8_advance 136 = .ok (.ifCond .eq 78, 3) := by decide +kernel
theorem dX8_advance_139 : decode cX8_advance 139 = .ok (.aload_n 0, 1) := by decide +kernel
theorem dX8_advance_140 : decode cX8_advance 140 = .ok (.iconst 0, 1) := by decide +kernel
theorem dX8_advance_141 : decode cX8_advance 141 = .ok (.putfield 148, 3) := by decide +kernel
theorem dX8_advance_144 : decode cX8_advance 144 = .ok (.aload_n 0, 1) := by decide +kernel
theorem dX8_advance_145 : decode cX8_advance 145 = .ok (.aload_n 0, 1) := by decide +kernel
theorem dX8_advance_146 : decode cX8_advance 146 = .ok (.getfield 127, 3) := by decide +kernel
theorem dX8_advance_149 : decode cX8_advance 149 = .ok (.invokevirtual 130, 3) := by decide +kernel
theorem dX8_advance_152 : decode cX8_advance 152 = .ok (.i2l, 1) := by decide +kernel
theorem dX8_advance_153 : decode cX8_advance 153 = .ok (.ldc2_w 144, 3) := by decide +kernel
theorem dX8_advance_156 : decode cX8_advance 156 = .ok (.ldc2_w 146, 3) := by decide +kernel
theorem dX8_advance_159 : decode cX8_advance 159 = .ok (.invokestatic 94, 3) := by decide +kernel
theorem dX8_advance_162 : decode cX8_advance 162 = .ok (.ifCond .eq 44, 3) := by decide +kernel
theorem dX8_advance_165 : decode cX8_advance 165 = .ok (.aload_n 0, 1) := by decide +kernel
theorem dX8_advance_166 : decode cX8_advance 166 = .ok (.ldc 151, 2) := by decide +kernel
theorem dX8_advance_168 : decode cX8_advance 168 = .ok (.bipush 10, 2) := by decide +kernel
theorem dX8_advance_170 : decode cX8_advance 170 = .ok (.aload_n 0, 1) := by decide +kernel
theorem dX8_advance_171 : decode cX8_advance 171 = .ok (.getfield 148, 3) := by decide +kernel
theorem dX8_advance_174 : decode cX8_advance 174 = .ok (.imul, 1) := by decide +kernel
theorem dX8_advance_175 : decode cX8_advance 175 = .ok (.aload_n 0, 1) := by decide +kernel
theorem dX8_advance_176 : decode cX8_advance 176 = .ok (.aload_n 0, 1) := by decide +kernel
theorem dX8_advance_177 : decode cX8_advance 177 = .ok (.getfield 127, 3) := by decide +kernel
theorem dX8_advance_180 : decode cX8_advance 180 = .ok (.invokevirtual 130, 3) := by decide +kernel
theorem dX8_advance_183 : decode cX8_advance 183 = .ok (.iadd, 1) := by decide +kernel
theorem dX8_advance_184 : decode cX8_advance 184 = .ok (.bipush 48, 2) := by decide +kernel
theorem dX8_advance_186 : decode cX8_advance 186 = .ok (.isub, 1) := by decide +kernel
theorem dX8_advance_187 : decode cX8_advance 187 = .ok (.invokestatic 152, 3) := by decide +kernel
theorem dX8_advance_190 : decode cX8_advance 190 = .ok (.putfield 148, 3) := by decide +kernel
theorem dX8_advance_193 : decode cX8_advance 193 = .ok (.aload_n 0, 1) := by decide +kernel
theorem dX8_advance_194 : decode cX8_advance 194 = .ok (.dup, 1) := by decide +kernel
theorem dX8_advance_195 : decode cX8_advance 195 = .ok (.getfield 127, 3) := by decide +kernel
theorem dX8_advance_198 : decode cX8_advance 198 = .ok (.iconst 1, 1) := by decide +kernel
theorem dX8_advance_199 : decode cX8_advance 199 = .ok (.iadd, 1) := by decide +kernel
theorem dX8_advance_200 : decode cX8_advance 200 = .ok (.putfield 127, 3) := by decide +kernel
theorem dX8_advance_203 : decode cX8_advance 203 = .ok (.goto (-59), 3) := by decide +kernel
theorem dX8_advance_206 : decode cX8_advance 206 = .ok (.aload_n 0, 1) := by decide +kernel
theorem dX8_advance_207 : decode cX8_advance 207 = .ok (.iconst 2, 1) := by decide +kernel
theorem dX8_advance_208 : decode cX8_advance 208 = .ok (.putfield 137, 3) := by decide +kernel
theorem dX8_advance_211 : decode cX8_advance 211 = .ok (.goto 28, 3) := by decide +kernel
theorem dX8_advance_214 : decode cX8_advance 214 = .ok (.aload_n 0, 1) := by decide +kernel
theorem dX8_advance_215 : decode cX8_advance 215 = .ok (.iload_n 1, 1) := by decide +kernel
theorem dX8_advance_216 : decode cX8_advance 216 = .ok (.bipush 59, 2) := by decide +kernel
theorem dX8_advance_218 : decode cX8_advance 218 = .ok (.if_icmp .ne 7, 3) := by decide +kernel
theorem dX8_advance_221 : decode cX8_advance 221 = .ok (.iconst 3, 1) := by decide +kernel
theorem dX8_advance_222 : decode cX8_advance 222 = .ok (.goto 4, 3) := by decide +kernel
theorem dX8_advance_225 : decode cX8_advance 225 = .ok (.iconst 4, 1) := by decide +kernel
theorem dX8_advance_226 : decode cX8_advance 226 = .ok (.putfield 137, 3) := by decide +kernel
theorem dX8_advance_229 : decode cX8_advance 229 = .ok (.aload_n 0, 1) := by decide +kernel
theorem dX8_advance_230 : decode cX8_advance 230 = .ok (.dup, 1) := by decide +kernel
theorem dX8_advance_231 : decode cX8_advance 231 = .ok (.getfield 127, 3) := by decide +kernel
theorem dX8_advance_234 : decode cX8_advance 234 = .ok (.iconst 1, 1) := by decide +kernel
theorem dX8_advance_235 : decode cX8_advance 235 = .ok (.iadd, 1) := by decide +kernel
theorem dX8_advance_236 : decode cX8_advance 236 = .ok (.putfield 127, 3) := by decide +kernel
theorem dX8_advance_239 : decode cX8_advance 239 = .ok (.return_, 1) := by decide +kernel
theorem dX8_good_0 : decode cX8_good 0 = .ok (.aload_n 0, 1) := by decide +kernel
theorem dX8_good_1 : decode cX8_good 1 = .ok (.getfield 158, 3) := by decide +kernel
theorem dX8_good_4 : decode cX8_good 4 = .ok (.ifCond .ne 7, 3) := by decide +kernel
theorem dX8_good_7 : decode cX8_good 7 = .ok (.iconst 1, 1) := by decide +kernel
theorem dX8_good_8 : decode cX8_good 8 = .ok (.goto 4, 3) := by decide +kernel
theorem dX8_good_11 : decode cX8_good 11 = .ok (.iconst 0, 1) := by decide +kernel
theorem dX8_good_12 : decode cX8_good 12 = .ok (.ireturn, 1) := by decide +kernel
theorem dX8_errs_0 : decode cX8_errs 0 = .ok (.aload_n 0, 1) := by decide +kernel
theorem dX8_errs_1 : decode cX8_errs 1 = .ok (.invokevirtual 161, 3) := by decide +kernel
theorem dX8_errs_4 : decode cX8_errs 4 = .ok (.ifCond .ne 4, 3) := by decide +kernel
theorem dX8_errs_7 : decode cX8_errs 7 = .ok (.return_, 1) := by decide +kernel
theorem dX8_errs_8 : decode cX8_errs 8 = .ok (.aload_n 0, 1) := by decide +kernel
theorem dX8_errs_9 : decode cX8_errs 9 = .ok (.iload_n 1, 1) := by decide +kernel
theorem dX8_errs_10 : decode cX8_errs 10 = .ok (.putfield 158, 3) := by decide +kernel
theorem dX8_errs_13 : decode cX8_errs 13 = .ok (.aload_n 0, 1) := by decide +kernel
theorem dX8_errs_14 : decode cX8_errs 14 = .ok (.aload_n 0, 1) := by decide +kernel
theorem dX8_errs_15 : decode cX8_errs 15 = .ok (.getfield 134, 3) := by decide +kernel
theorem dX8_errs_18 : decode cX8_errs 18 = .ok (.putfield 27, 3) := by decide +kernel
theorem dX8_errs_21 : decode cX8_errs 21 = .ok (.return_, 1) := by decide +kernel
theorem dX8_is_0 : decode cX8_is 0 = .ok (.aload_n 0, 1) := by decide +kernel
theorem dX8_is_1 : decode cX8_is 1 = .ok (.invokevirtual 161, 3) := by decide +kernel
theorem dX8_is_4 : decode cX8_is 4 = .ok (.ifCond .eq 31, 3) := by decide +kernel
theorem dX8_is_7 : decode cX8_is 7 = .ok (.aload_n 0, 1) := by decide +kernel
theorem dX8_is_8 : decode cX8_is 8 = .ok (.getfield 137, 3) := by decide +kernel
theorem dX8_is_11 : decode cX8_is 11 = .ok (.iconst 1, 1) := by decide +kernel
theorem dX8_is_12 : decode cX8_is 12 = .ok (.if_icmp .ne 23, 3) := by decide +kernel
theorem dX8_is_15 : decode cX8_is 15 = .ok (.aload_n 0, 1) := by decide +kernel
theorem dX8_is_16 : decode cX8_is 16 = .ok (.getfield 127, 3) := by decide +kernel
theorem dX8_is_19 : decode cX8_is 19 = .ok (.aload_n 0, 1) := by decide +kernel
theorem dX8_is_20 : decode cX8_is 20 = .ok (.getfield 134, 3) := by decide +kernel
theorem dX8_is_23 : decode cX8_is 23 = .ok (.isub, 1) := by decide +kernel
theorem dX8_is_24 : decode cX8_is 24 = .ok (.aload_n 1, 1) := by decide +kernel
theorem dX8_is_25 : decode cX8_is 25 = .ok (.invokevirtual 164, 3) := by decide +kernel
theorem dX8_is_28 : decode cX8_is 28 = .ok (.if_icmp .ne 7, 3) := by decide +kernel
theorem dX8_is_31 : decode cX8_is 31 = .ok (.iconst 1, 1) := by decide +kernel
theorem dX8_is_32 : decode cX8_is 32 = .ok (.goto 4, 3) := by decide +kernel
theorem dX8_is_35 : decode cX8_is 35 = .ok (.iconst 0, 1) := by decide +kernel
theorem dX8_is_36 : decode cX8_is 36 = .ok (.istore_n 2, 1) := by decide +kernel
theorem dX8_is_37 : decode cX8_is 37 = .ok (.iconst 0, 1) := by decide +kernel
theorem dX8_is_38 : decode cX8_is 38 = .ok (.istore_n 3, 1) := by decide +kernel
theorem dX8_is_39 : decode cX8_is 39 = .ok (.iload_n 3, 1) := by decide +kernel
theorem dX8_is_40 : decode cX8_is 40 = .ok (.aload_n 1, 1) := by decide +kernel
theorem dX8_is_41 : decode cX8_is 41 = .ok (.invokevirtual 164, 3) := by decide +kernel
theorem dX8_is_44 : decode cX8_is 44 = .ok (.if_icmp .ge 38, 3) := by decide +kernel
theorem dX8_is_47 : decode cX8_is 47 = .ok (.iload_n 2, 1) := by decide +kernel
theorem dX8_is_48 : decode cX8_is 48 = .ok (.ifCond .eq 34, 3) := by decide +kernel
theorem dX8_is_51 : decode cX8_is 51 = .ok (.aload_n 0, 1) := by decide +kernel
theorem dX8_is_52 : decode cX8_is 52 = .ok (.getfield 20, 3) := by decide +kernel
theorem dX8_is_55 : decode cX8_is 55 = .ok (.aload_n 0, 1) := by decide +kernel
theorem dX8_is_56 : decode cX8_is 56 = .ok (.getfield 134, 3) := by decide +kernel
theorem dX8_is_59 : decode cX8_is 59 = .ok (.iload_n 3, 1) := by decide +kernel
theorem dX8_is_60 : decode cX8_is 60 = .ok (.iadd, 1) := by decide +kernel
theorem dX8_is_61 : decode cX8_is 61 = .ok (.baload, 1) := by decide +kernel
theorem dX8_is_62 : decode cX8_is 62 = .ok (.aload_n 1, 1) := by decide +kernel
theorem dX8_is_63 : decode cX8_is 63 = .ok (.iload_n 3, 1) := by decide +kernel
theorem dX8_is_64 : decode cX8_is 64 = .ok (.invokevirtual 169, 3) := by decide +kernel
theorem dX8_is_67 : decode cX8_is 67 = .ok (.if_icmp .ne 7, 3) := by decide +kernel
theorem dX8_is_70 : decode cX8_is 70 = .ok (.iconst 1, 1) := by decide +kernel
theorem dX8_is_71 : decode cX8_is 71 = .ok (.goto 4, 3) := by decide +kernel
theorem dX8_is_74 : decode cX8_is 74 = .ok (.iconst 0, 1) := by decide +kernel
theorem dX8_is_75 : decode cX8_is 75 = .ok (.istore_n 2, 1) := by decide +kernel
theorem dX8_is_76 : decode cX8_is 76 = .ok (.iinc 3 1, 3) := by decide +kernel
theorem dX8_is_79 : decode cX8_is 79 = .ok (.goto (-40), 3) := by decide +kernel
theorem dX8_is_82 : decode cX8_is 82 = .ok (.iload_n 2, 1) := by decide +kernel
theorem dX8_is_83 : decode cX8_is 83 = .ok (.ireturn, 1) := by decide +kernel
theorem dX8_takes_0 : decode cX8_takes 0 = .ok (.aload_n 0, 1) := by decide +kernel
theorem dX8_takes_1 : decode cX8_takes 1 = .ok (.aload_n 1, 1) := by decide +kernel
theorem dX8_takes_2 : decode cX8_takes 2 = .ok (.invokevirtual 173, 3) := by decide +kernel
theorem dX8_takes_5 : decode cX8_takes 5 = .ok (.istore_n 2, 1) := by decide +kernel
theorem dX8_takes_6 : decode cX8_takes 6 = .ok (.iload_n 2, 1) := by decide +kernel
theorem dX8_takes_7 : decode cX8_takes 7 = .ok (.ifCond .eq 7, 3) := by decide +kernel
theorem dX8_takes_10 : decode cX8_takes 10 = .ok (.aload_n 0, 1) := by decide +kernel
theorem dX8_takes_11 : decode cX8_takes 11 = .ok (.invokevirtual 177, 3) := by decide +kernel
theorem dX8_takes_14 : decode cX8_takes 14 = .ok (.iload_n 2, 1) := by decide +kernel
theorem dX8_takes_15 : decode cX8_takes 15 = .ok (.ireturn, 1) := by decide +kernel
theorem dX8_expects_0 : decode cX8_expects 0 = .ok (.aload_n 0, 1) := by decide +kernel
theorem dX8_expects_1 : decode cX8_expects 1 = .ok (.aload_n 1, 1) := by decide +kernel
theorem dX8_expects_2 : decode cX8_expects 2 = .ok (.invokevirtual 180, 3) := by decide +kernel
theorem dX8_expects_5 : decode cX8_expects 5 = .ok (.ifCond .ne 8, 3) := by decide +kernel
theorem dX8_expects_8 : decode cX8_expects 8 = .ok (.aload_n 0, 1) := by decide +kernel
theorem dX8_expects_9 : decode cX8_expects 9 = .ok (.iconst 1, 1) := by decide +kernel
theorem dX8_expects_10 : decode cX8_expects 10 = .ok (.invokevirtual 183, 3) := by decide +kernel
theorem dX8_expects_13 : decode cX8_expects 13 = .ok (.return_, 1) := by decide +kernel
theorem dX8_number_0 : decode cX8_number 0 = .ok (.aload_n 0, 1) := by decide +kernel
theorem dX8_number_1 : decode cX8_number 1 = .ok (.invokevirtual 161, 3) := by decide +kernel
theorem dX8_number_4 : decode cX8_number 4 = .ok (.ifCond .eq 16, 3) := by decide +kernel
theorem dX8_number_7 : decode cX8_number 7 = .ok (.aload_n 0, 1) := by decide +kernel
theorem dX8_number_8 : decode cX8_number 8 = .ok (.getfield 137, 3) := by decide +kernel
theorem dX8_number_11 : decode cX8_number 11 = .ok (.iconst 2, 1) := by decide +kernel
theorem dX8_number_12 : decode cX8_number 12 = .ok (.if_icmp .eq 8, 3) := by decide +kernel
theorem dX8_number_15 : decode cX8_number 15 = .ok (.aload_n 0, 1) := by decide +kernel
theorem dX8_number_16 : decode cX8_number 16 = .ok (.iconst 1, 1) := by decide +kernel
theorem dX8_number_17 : decode cX8_number 17 = .ok (.invokevirtual 183, 3) := by decide +kernel
theorem dX8_number_20 : decode cX8_number 20 = .ok (.aload_n 0, 1) := by decide +kernel
theorem dX8_number_21 : decode cX8_number 21 = .ok (.invokevirtual 161, 3) := by decide +kernel
theorem dX8_number_24 : decode cX8_number 24 = .ok (.ifCond .eq 23, 3) := by decide +kernel
theorem dX8_number_27 : decode cX8_number 27 = .ok (.aload_n 0, 1) := by decide +kernel
theorem dX8_number_28 : decode cX8_number 28 = .ok (.getfield 148, 3) := by decide +kernel
theorem dX8_number_31 : decode cX8_number 31 = .ok (.i2l, 1) := by decide +kernel
theorem dX8_number_32 : decode cX8_number 32 = .ok (.iload_n 1, 1) := by decide +kernel
theorem dX8_number_33 : decode cX8_number 33 = .ok (.i2l, 1) := by decide +kernel
theorem dX8_number_34 : decode cX8_number 34 = .ok (.iload_n 2, 1) := by decide +kernel
theorem dX8_number_35 : decode cX8_number 35 = .ok (.i2l, 1) := by decide +kernel
theorem dX8_number_36 : decode cX8_number 36 = .ok (.invokestatic 94, 3) := by decide +kernel
theorem dX8_number_39 : decode cX8_number 39 = .ok (.ifCond .ne 8, 3) := by decide +kernel
theorem dX8_number_42 : decode cX8_number 42 = .ok (.aload_n 0, 1) := by decide +kernel
theorem dX8_number_43 : decode cX8_number 43 = .ok (.iconst 2, 1) := by decide +kernel
theorem dX8_number_44 : decode cX8_number 44 = .ok (.invokevirtual 183, 3) := by decide +kernel
theorem dX8_number_47 : decode cX8_number 47 = .ok (.aload_n 0, 1) := by decide +kernel
theorem dX8_number_48 : decode cX8_number 48 = .ok (.invokevirtual 161, 3) := by decide +kernel
theorem dX8_number_51 : decode cX8_number 51 = .ok (.ifCond .ne 5, 3) := by decide +kernel
theorem dX8_number_54 : decode cX8_number 54 = .ok (.iconst 0, 1) := by decide +kernel
theorem dX8_number_55 : decode cX8_number 55 = .ok (.ireturn, 1) := by decide +kernel
theorem dX8_number_56 : decode cX8_number 56 = .ok (.aload_n 0, 1) := by decide +kernel
theorem dX8_number_57 : decode cX8_number 57 = .ok (.getfield 148, 3) := by decide +kernel
theorem dX8_number_60 : decode cX8_number 60 = .ok (.istore_n 3, 1) := by decide +kernel
theorem dX8_number_61 : decode cX8_number 61 = .ok (.aload_n 0, 1) := by decide +kernel
theorem dX8_number_62 : decode cX8_number 62 = .ok (.invokevirtual 177, 3) := by decide +kernel
theorem dX8_number_65 : decode cX8_number 65 = .ok (.iload_n 3, 1) := by decide +kernel
theorem dX8_number_66 : decode cX8_number 66 = .ok (.ireturn, 1) := by decide +kernel
theorem dX8_toldBy_0 : decode cX8_toldBy 0 = .ok (.aload_n 0, 1) := by decide +kernel
theorem dX8_toldBy_1 : decode cX8_toldBy 1 = .ok (.aload_n 1, 1) := by decide +kernel
theorem dX8_toldBy_2 : decode cX8_toldBy 2 = .ok (.invokevirtual 187, 3) := by decide +kernel
theorem dX8_toldBy_5 : decode cX8_toldBy 5 = .ok (.aload_n 0, 1) := by decide +kernel
theorem dX8_toldBy_6 : decode cX8_toldBy 6 = .ok (.iload_n 2, 1) := by decide +kernel
theorem dX8_toldBy_7 : decode cX8_toldBy 7 = .ok (.iload_n 3, 1) := by decide +kernel
theorem dX8_toldBy_8 : decode cX8_toldBy 8 = .ok (.invokevirtual 191, 3) := by decide +kernel
theorem dX8_toldBy_11 : decode cX8_toldBy 11 = .ok (.ireturn, 1) := by decide +kernel
theorem dX8_fault_0 : decode cX8_fault 0 = .ok (.iload_n 1, 1) := by decide +kernel
theorem dX8_fault_1 : decode cX8_fault 1 = .ok (.ifCond .ne 10, 3) := by decide +kernel
theorem dX8_fault_4 : decode cX8_fault 4 = .ok (.aload_n 0, 1) := by decide +kernel
theorem dX8_fault_5 : decode cX8_fault 5 = .ok (.getfield 158, 3) := by decide +kernel
theorem dX8_fault_8 : decode cX8_fault 8 = .ok (.goto 16, 3) := by decide +kernel
theorem dX8_fault_11 : decode cX8_fault 11 = .ok (.iload_n 1, 1) := by decide +kernel
theorem dX8_fault_12 : decode cX8_fault 12 = .ok (.iconst 1, 1) := by decide +kernel
theorem dX8_fault_13 : decode cX8_fault 13 = .ok (.if_icmp .ne 10, 3) := by decide +kernel
theorem dX8_fault_16 : decode cX8_fault 16 = .ok (.aload_n 0, 1) := by decide +kernel
theorem dX8_fault_17 : decode cX8_fault 17 = .ok (.getfield 27, 3) := by decide +kernel
theorem dX8_fault_20 : decode cX8_fault 20 = .ok (.goto 4, 3) := by decide +kernel
theorem dX8_fault_23 : decode cX8_fault 23 = .ok (.iconst (-1), 1) := by decide +kernel
theorem dX8_fault_24 : decode cX8_fault 24 = .ok (.ireturn, 1) := by decide +kernel
theorem dX8_readFirst_0 : decode cX8_readFirst 0 = .ok (.aload_n 0, 1) := by decide +kernel
theorem dX8_readFirst_1 : decode cX8_readFirst 1 = .ok (.ldc 194, 2) := by decide +kernel
theorem dX8_readFirst_3 : decode cX8_readFirst 3 = .ok (.invokevirtual 187, 3) := by decide +kernel
theorem dX8_readFirst_6 : decode cX8_readFirst 6 = .ok (.aload_n 0, 1) := by decide +kernel
theorem dX8_readFirst_7 : decode cX8_readFirst 7 = .ok (.getfield 31, 3) := by decide +kernel
theorem dX8_readFirst_10 : decode cX8_readFirst 10 = .ok (.iconst 0, 1) := by decide +kernel
theorem dX8_readFirst_11 : decode cX8_readFirst 11 = .ok (.aload_n 0, 1) := by decide +kernel
theorem dX8_readFirst_12 : decode cX8_readFirst 12 = .ok (.ldc 196, 2) := by decide +kernel
theorem dX8_readFirst_14 : decode cX8_readFirst 14 = .ok (.iconst 1, 1) := by decide +kernel
theorem dX8_readFirst_15 : decode cX8_readFirst 15 = .ok (.bipush 16, 2) := by decide +kernel
theorem dX8_readFirst_17 : decode cX8_readFirst 17 = .ok (.invokevirtual 197, 3) := by decide +kernel
theorem dX8_readFirst_20 : decode cX8_readFirst 20 = .ok (.iastore, 1) := by decide +kernel
theorem dX8_readFirst_21 : decode cX8_readFirst 21 = .ok (.aload_n 0, 1) := by decide +kernel
theorem dX8_readFirst_22 : decode cX8_readFirst 22 = .ok (.getfield 31, 3) := by decide +kernel
theorem dX8_readFirst_25 : decode cX8_readFirst 25 = .ok (.iconst 1, 1) := by decide +kernel
theorem dX8_readFirst_26 : decode cX8_readFirst 26 = .ok (.aload_n 0, 1) := by decide +kernel
theorem dX8_readFirst_27 : decode cX8_readFirst 27 = .ok (.ldc 201, 2) := by decide +kernel
theorem dX8_readFirst_29 : decode cX8_readFirst 29 = .ok (.iconst 0, 1) := by decide +kernel
theorem dX8_readFirst_30 : decode cX8_readFirst 30 = .ok (.iconst 3, 1) := by decide +kernel
theorem dX8_readFirst_31 : decode cX8_readFirst 31 = .ok (.invokevirtual 197, 3) := by decide +kernel
theorem dX8_readFirst_34 : decode cX8_readFirst 34 = .ok (.iastore, 1) := by decide +kernel
theorem dX8_readFirst_35 : decode cX8_readFirst 35 = .ok (.aload_n 0, 1) := by decide +kernel
theorem dX8_readFirst_36 : decode cX8_readFirst 36 = .ok (.getfield 31, 3) := by decide +kernel
theorem dX8_readFirst_39 : decode cX8_readFirst 39 = .ok (.iconst 2, 1) := by decide +kernel
theorem dX8_readFirst_40 : decode cX8_readFirst 40 = .ok (.aload_n 0, 1) := by decide +kernel
theorem dX8_readFirst_41 : decode cX8_readFirst 41 = .ok (.ldc 203, 2) := by decide +kernel
theorem dX8_readFirst_43 : decode cX8_readFirst 43 = .ok (.iconst 0, 1) := by decide +kernel
theorem dX8_readFirst_44 : decode cX8_readFirst 44 = .ok (.bipush 10, 2) := by decide +kernel
theorem dX8_readFirst_46 : decode cX8_readFirst 46 = .ok (.invokevirtual 197, 3) := by decide +kernel
theorem dX8_readFirst_49 : decode cX8_readFirst 49 = .ok (.iastore, 1) := by decide +kernel
theorem dX8_readFirst_50 : decode cX8_readFirst 50 = .ok (.return_, 1) := by decide +kernel
theorem dX8_readPost_0 : decode cX8_readPost 0 = .ok (.aload_n 0, 1) := by decide +kernel
theorem dX8_readPost_1 : decode cX8_readPost 1 = .ok (.iconst 0, 1) := by decide +kernel
theorem dX8_readPost_2 : decode cX8_readPost 2 = .ok (.aload_n 0, 1) := by decide +kernel
theorem dX8_readPost_3 : decode cX8_readPost 3 = .ok (.getfield 31, 3) := by decide +kernel
theorem dX8_readPost_6 : decode cX8_readPost 6 = .ok (.iconst 4, 1) := by decide +kernel
theorem dX8_readPost_7 : decode cX8_readPost 7 = .ok (.iaload, 1) := by decide +kernel
theorem dX8_readPost_8 : decode cX8_readPost 8 = .ok (.iconst 1, 1) := by decide +kernel
theorem dX8_readPost_9 : decode cX8_readPost 9 = .ok (.isub, 1) := by decide +kernel
theorem dX8_readPost_10 : decode cX8_readPost 10 = .ok (.invokevirtual 191, 3) := by decide +kernel
theorem dX8_readPost_13 : decode cX8_readPost 13 = .ok (.ireturn, 1) := by decide +kernel
theorem dX8_readRoad_0 : decode cX8_readRoad 0 = .ok (.aload_n 0, 1) := by decide +kernel
theorem dX8_readRoad_1 : decode cX8_readRoad 1 = .ok (.invokevirtual 161, 3) := by decide +kernel
theorem dX8_readRoad_4 : decode cX8_readRoad 4 = .ok (.ifCond .eq 36, 3) := by decide +kernel
theorem dX8_readRoad_7 : decode cX8_readRoad 7 = .ok (.aload_n 0, 1) := by decide +kernel
theorem dX8_readRoad_8 : decode cX8_readRoad 8 = .ok (.getfield 137, 3) := by decide +kernel
theorem dX8_readRoad_11 : decode cX8_readRoad 11 = .ok (.iconst 2, 1) := by decide +kernel
theorem dX8_readRoad_12 : decode cX8_readRoad 12 = .ok (.if_icmp .ne 28, 3) := by decide +kernel
theorem dX8_readRoad_15 : decode cX8_readRoad 15 = .ok (.aload_n 0, 1) := by decide +kernel
theorem dX8_readRoad_16 : decode cX8_readRoad 16 = .ok (.getfield 148, 3) := by decide +kernel
theorem dX8_readRoad_19 : decode cX8_readRoad 19 = .ok (.i2l, 1) := by decide +kernel
theorem dX8_readRoad_20 : decode cX8_readRoad 20 = .ok (.lconst 0, 1) := by decide +kernel
theorem dX8_readRoad_21 : decode cX8_readRoad 21 = .ok (.aload_n 0, 1) := by decide +kernel
theorem dX8_readRoad_22 : decode cX8_readRoad 22 = .ok (.getfield 31, 3) := by decide +kernel
theorem dX8_readRoad_25 : decode cX8_readRoad 25 = .ok (.iconst 4, 1) := by decide +kernel
theorem dX8_readRoad_26 : decode cX8_readRoad 26 = .ok (.iaload, 1) := by decide +kernel
theorem dX8_readRoad_27 : decode cX8_readRoad 27 = .ok (.iconst 1, 1) := by decide +kernel
theorem dX8_readRoad_28 : decode cX8_readRoad 28 = .ok (.isub, 1) := by decide +kernel
theorem dX8_readRoad_29 : decode cX8_readRoad 29 = .ok (.i2l, 1) := by decide +kernel
theorem dX8_readRoad_30 : decode cX8_readRoad 30 = .ok (.invokestatic 94, 3) := by decide +kernel
theorem dX8_readRoad_33 : decode cX8_readRoad 33 = .ok (.ifCond .eq 7, 3) := by decide +kernel
theorem dX8_readRoad_36 : decode cX8_readRoad 36 = .ok (.iconst 1, 1) := by decide +kernel
theorem dX8_readRoad_37 : decode cX8_readRoad 37 = .ok (.goto 4, 3) := by decide +kernel
theorem dX8_readRoad_40 : decode cX8_readRoad 40 = .ok (.iconst 0, 1) := by decide +kernel
theorem dX8_readRoad_41 : decode cX8_readRoad 41 = .ok (.istore_n 1, 1) := by decide +kernel
theorem dX8_readRoad_42 : decode cX8_readRoad 42 = .ok (.iload_n 1, 1) := by decide +kernel
theorem dX8_readRoad_43 : decode cX8_readRoad 43 = .ok (.ifCond .eq 27, 3) := by decide +kernel
theorem dX8_readRoad_46 : decode cX8_readRoad 46 = .ok (.aload_n 0, 1) := by decide +kernel
theorem dX8_readRoad_47 : decode cX8_readRoad 47 = .ok (.getfield 31, 3) := by decide +kernel
theorem dX8_readRoad_50 : decode cX8_readRoad 50 = .ok (.bipush 14, 2) := by decide +kernel
theorem dX8_readRoad_52 : decode cX8_readRoad 52 = .ok (.bipush 6, 2) := by decide +kernel
theorem dX8_readRoad_54 : decode cX8_readRoad 54 = .ok (.aload_n 0, 1) := by decide +kernel
theorem dX8_readRoad_55 : decode cX8_readRoad 55 = .ok (.getfield 148, 3) := by decide +kernel
theorem dX8_readRoad_58 : decode cX8_readRoad 58 = .ok (.imul, 1) := by decide +kernel
theorem dX8_readRoad_59 : decode cX8_readRoad 59 = .ok (.iadd, 1) := by decide +kernel
theorem dX8_readRoad_60 : decode cX8_readRoad 60 = .ok (.iaload, 1) := by decide +kernel
theorem dX8_readRoad_61 : decode cX8_readRoad 61 = .ok (.iconst 4, 1) := by decide +kernel
theorem dX8_readRoad_62 : decode cX8_readRoad 62 = .ok (.if_icmp .ne 8, 3) := by decide +kernel
theorem dX8_readRoad_65 : decode cX8_readRoad 65 = .ok (.aload_n 0, 1) := by decide +kernel
theorem dX8_readRoad_66 : decode cX8_readRoad 66 = .ok (.iconst 3, 1) := by decide +kernel
theorem dX8_readRoad_67 : decode cX8_readRoad 67 = .ok (.invokevirtual 183, 3) := by decide +kernel
theorem dX8_readRoad_70 : decode cX8_readRoad 70 = .ok (.aload_n 0, 1) := by decide +kernel
theorem dX8_readRoad_71 : decode cX8_readRoad 71 = .ok (.invokevirtual 205, 3) := by decide +kernel
theorem dX8_readRoad_74 : decode cX8_readRoad 74 = .ok (.istore_n 2, 1) := by decide +kernel
theorem dX8_readRoad_75 : decode cX8_readRoad 75 = .ok (.bipush 14, 2) := by decide +kernel
theorem dX8_readRoad_77 : decode cX8_readRoad 77 = .ok (.bipush 6, 2) := by decide +kernel
theorem dX8_readRoad_79 : decode cX8_readRoad 79 = .ok (.iload_n 2, 1) := by decide +kernel
theorem dX8_readRoad_80 : decode cX8_readRoad 80 = .ok (.imul, 1) := by decide +kernel
theorem dX8_readRoad_81 : decode cX8_readRoad 81 = .ok (.iadd, 1) := by decide +kernel
theorem dX8_readRoad_82 : decode cX8_readRoad 82 = .ok (.istore_n 3, 1) := by decide +kernel
theorem dX8_readRoad_83 : decode cX8_readRoad 83 = .ok (.iconst 0, 1) := by decide +kernel
theorem dX8_readRoad_84 : decode cX8_readRoad 84 = .ok (.istore 4, 2) := by decide +kernel
theorem dX8_readRoad_86 : decode cX8_readRoad 86 = .ok (.aload_n 0, 1) := by decide +kernel
theorem dX8_readRoad_87 : decode cX8_readRoad 87 = .ok (.ldc 208, 2) := by decide +kernel
theorem dX8_readRoad_89 : decode cX8_readRoad 89 = .ok (.invokevirtual 180, 3) := by decide +kernel
theorem dX8_readRoad_92 : decode cX8_readRoad 92 = .ok (.ifCond .eq 40, 3) := by decide +kernel
theorem dX8_readRoad_95 : decode cX8_readRoad 95 = .ok (.aload_n 0, 1) := by decide +kernel
theorem dX8_readRoad_96 : decode cX8_readRoad 96 = .ok (.invokevirtual 161, 3) := by decide +kernel
theorem dX8_readRoad_99 : decode cX8_readRoad 99 = .ok (.ifCond .eq 24, 3) := by decide +kernel
theorem dX8_readRoad_102 : decode cX8_readRoad 102 = .ok (.aload_n 0, 1) := by decide +kernel
theorem dX8_readRoad_103 : decode cX8_readRoad 103 = .ok (.getfield 137, 3) := by decide +kernel
theorem dX8_readRoad_106 : decode cX8_readRoad 106 = .ok (.iconst 2, 1) := by decide +kernel
theorem dX8_readRoad_107 : decode cX8_readRoad 107 = .ok (.if_icmp .ne 16, 3) := by decide +kernel
theorem dX8_readRoad_110 : decode cX8_readRoad 110 = .ok (.aload_n 0, 1) := by decide +kernel
theorem dX8_readRoad_111 : decode cX8_readRoad 111 = .ok (.getfield 148, 3) := by decide +kernel
theorem dX8_readRoad_114 : decode cX8_readRoad 114 = .ok (.iload_n 2, 1) := by decide +kernel
theorem dX8_readRoad_115 : decode cX8_readRoad 115 = .ok (.if_icmp .ne 8, 3) := by decide +kernel
theorem dX8_readRoad_118 : decode cX8_readRoad 118 = .ok (.aload_n 0, 1) := by decide +kernel
theorem dX8_readRoad_119 : decode cX8_readRoad 119 = .ok (.iconst 2, 1) := by decide +kernel
theorem dX8_readRoad_120 : decode cX8_readRoad 120 = .ok (.invokevirtual 183, 3) := by decide +kernel
theorem dX8_readRoad_123 : decode cX8_readRoad 123 = .ok (.aload_n 0, 1) := by decide +kernel
theorem dX8_readRoad_124 : decode cX8_readRoad 124 = .ok (.invokevirtual 205, 3) := by decide +kernel
theorem dX8_readRoad_127 : decode cX8_readRoad 127 = .ok (.istore 4, 2) := by decide +kernel
theorem dX8_readRoad_129 : decode cX8_readRoad 129 = .ok (.goto 23, 3) := by decide +kernel
theorem dX8_readRoad_132 : decode cX8_readRoad 132 = .ok (.bipush 10, 2) := by decide +kernel
theorem dX8_readRoad_134 : decode cX8_readRoad 134 = .ok (.aload_n 0, 1) := by decide +kernel
theorem dX8_readRoad_135 : decode cX8_readRoad 135 = .ok (.ldc 210, 2) := by decide +kernel
theorem dX8_readRoad_137 : decode cX8_readRoad 137 = .ok (.iconst 0, 1) := by decide +kernel
theorem dX8_readRoad_138 : decode cX8_readRoad 138 = .ok (.aload_n 0, 1) := by decide +kernel
theorem dX8_readRoad_139 : decode cX8_readRoad 139 = .ok (.getfield 31, 3) := by decide +kernel
theorem dX8_readRoad_142 : decode cX8_readRoad 142 = .ok (.iconst 3, 1) := by decide +kernel
theorem dX8_readRoad_143 : decode cX8_readRoad 143 = .ok (.iaload, 1) := by decide +kernel
theorem dX8_readRoad_144 : decode cX8_readRoad 144 = .ok (.iconst 1, 1) := by decide +kernel
theorem dX8_readRoad_145 : decode cX8_readRoad 145 = .ok (.isub, 1) := by decide +kernel
theorem dX8_readRoad_146 : decode cX8_readRoad 146 = .ok (.invokevirtual 197, 3) := by decide +kernel
theorem dX8_readRoad_149 : decode cX8_readRoad 149 = .ok (.iadd, 1) := by decide +kernel
theorem dX8_readRoad_150 : decode cX8_readRoad 150 = .ok (.istore 4, 2) := by decide +kernel
theorem dX8_readRoad_152 : decode cX8_readRoad 152 = .ok (.aload_n 0, 1) := by decide +kernel
theorem dX8_readRoad_153 : decode cX8_readRoad 153 = .ok (.invokevirtual 161, 3) := by decide +kernel
theorem dX8_readRoad_156 : decode cX8_readRoad 156 = .ok (.ifCond .ne 4, 3) := by decide +kernel
theorem dX8_readRoad_159 : decode cX8_readRoad 159 = .ok (.return_, 1) := by decide +kernel
theorem dX8_readRoad_160 : decode cX8_readRoad 160 = .ok (.aload_n 0, 1) := by decide +kernel
theorem dX8_readRoad_161 : decode cX8_readRoad 161 = .ok (.getfield 31, 3) := by decide +kernel
theorem dX8_readRoad_164 : decode cX8_readRoad 164 = .ok (.iload_n 3, 1) := by decide +kernel
theorem dX8_readRoad_165 : decode cX8_readRoad 165 = .ok (.iconst 1, 1) := by decide +kernel
theorem dX8_readRoad_166 : decode cX8_readRoad 166 = .ok (.iadd, 1) := by decide +kernel
theorem dX8_readRoad_167 : decode cX8_readRoad 167 = .ok (.aload_n 0, 1) := by decide +kernel
theorem dX8_readRoad_168 : decode cX8_readRoad 168 = .ok (.getfield 31, 3) := by decide +kernel
theorem dX8_readRoad_171 : decode cX8_readRoad 171 = .ok (.iload_n 3, 1) := by decide +kernel
theorem dX8_readRoad_172 : decode cX8_readRoad 172 = .ok (.iaload, 1) := by decide +kernel
theorem dX8_readRoad_173 : decode cX8_readRoad 173 = .ok (.iadd, 1) := by decide +kernel
theorem dX8_readRoad_174 : decode cX8_readRoad 174 = .ok (.iload 4, 2) := by decide +kernel
theorem dX8_readRoad_176 : decode cX8_readRoad 176 = .ok (.iastore, 1) := by decide +kernel
theorem dX8_readRoad_177 : decode cX8_readRoad 177 = .ok (.aload_n 0, 1) := by decide +kernel
theorem dX8_readRoad_178 : decode cX8_readRoad 178 = .ok (.getfield 31, 3) := by decide +kernel
theorem dX8_readRoad_181 : decode cX8_readRoad 181 = .ok (.iload_n 3, 1) := by decide +kernel
theorem dX8_readRoad_182 : decode cX8_readRoad 182 = .ok (.dup2, 1) := by decide +kernel
theorem dX8_readRoad_183 : decode cX8_readRoad 183 = .ok (.iaload, 1) := by decide +kernel
theorem dX8_readRoad_184 : decode cX8_readRoad 184 = .ok (.iconst 1, 1) := by decide +kernel
theorem dX8_readRoad_185 : decode cX8_readRoad 185 = .ok (.iadd, 1) := by decide +kernel
theorem dX8_readRoad_186 : decode cX8_readRoad 186 = .ok (.iastore, 1) := by decide +kernel
theorem dX8_readRoad_187 : decode cX8_readRoad 187 = .ok (.aload_n 0, 1) := by decide +kernel
theorem dX8_readRoad_188 : decode cX8_readRoad 188 = .ok (.getfield 31, 3) := by decide +kernel
theorem dX8_readRoad_191 : decode cX8_readRoad 191 = .ok (.iconst 5, 1) := by decide +kernel
theorem dX8_readRoad_192 : decode cX8_readRoad 192 = .ok (.dup2, 1) := by decide +kernel
theorem dX8_readRoad_193 : decode cX8_readRoad 193 = .ok (.iaload, 1) := by decide +kernel
theorem dX8_readRoad_194 : decode cX8_readRoad 194 = .ok (.iconst 1, 1) := by decide +kernel
theorem dX8_readRoad_195 : decode cX8_readRoad 195 = .ok (.iadd, 1) := by decide +kernel
theorem dX8_readRoad_196 : decode cX8_readRoad 196 = .ok (.iastore, 1) := by decide +kernel
theorem dX8_readRoad_197 : decode cX8_readRoad 197 = .ok (.return_, 1) := by decide +kernel
theorem dX8_readArm_0 : decode cX8_readArm 0 = .ok (.bipush 14, 2) := by decide +kernel
theorem dX8_readArm_2 : decode cX8_readArm 2 = .ok (.bipush 6, 2) := by decide +kernel
theorem dX8_readArm_4 : decode cX8_readArm 4 = .ok (.aload_n 0, 1) := by decide +kernel
theorem dX8_readArm_5 : decode cX8_readArm 5 = .ok (.invokevirtual 205, 3) := by decide +kernel
theorem dX8_readArm_8 : decode cX8_readArm 8 = .ok (.imul, 1) := by decide +kernel
theorem dX8_readArm_9 : decode cX8_readArm 9 = .ok (.iadd, 1) := by decide +kernel
theorem dX8_readArm_10 : decode cX8_readArm 10 = .ok (.istore_n 1, 1) := by decide +kernel
theorem dX8_readArm_11 : decode cX8_readArm 11 = .ok (.aload_n 0, 1) := by decide +kernel
theorem dX8_readArm_12 : decode cX8_readArm 12 = .ok (.iconst 0, 1) := by decide +kernel
theorem dX8_readArm_13 : decode cX8_readArm 13 = .ok (.aload_n 0, 1) := by decide +kernel
theorem dX8_readArm_14 : decode cX8_readArm 14 = .ok (.invokevirtual 161, 3) := by decide +kernel
theorem dX8_readArm_17 : decode cX8_readArm 17 = .ok (.ifCond .eq 14, 3) := by decide +kernel
theorem dX8_readArm_20 : decode cX8_readArm 20 = .ok (.aload_n 0, 1) := by decide +kernel
theorem dX8_readArm_21 : decode cX8_readArm 21 = .ok (.getfield 31, 3) := by decide +kernel
theorem dX8_readArm_24 : decode cX8_readArm 24 = .ok (.iload_n 1, 1) := by decide +kernel
theorem dX8_readArm_25 : decode cX8_readArm 25 = .ok (.iaload, 1) := by decide +kernel
theorem dX8_readArm_26 : decode cX8_readArm 26 = .ok (.iconst 1, 1) := by decide +kernel
theorem dX8_readArm_27 : decode cX8_readArm 27 = .ok (.isub, 1) := by decide +kernel
theorem dX8_readArm_28 : decode cX8_readArm 28 = .ok (.goto 4, 3) := by decide +kernel
theorem dX8_readArm_31 : decode cX8_readArm 31 = .ok (.iconst 0, 1) := by decide +kernel
theorem dX8_readArm_32 : decode cX8_readArm 32 = .ok (.invokevirtual 191, 3) := by decide +kernel
theorem dX8_readArm_35 : decode cX8_readArm 35 = .ok (.istore_n 2, 1) := by decide +kernel
theorem dX8_readArm_36 : decode cX8_readArm 36 = .ok (.aload_n 0, 1) := by decide +kernel
theorem dX8_readArm_37 : decode cX8_readArm 37 = .ok (.invokevirtual 161, 3) := by decide +kernel
theorem dX8_readArm_40 : decode cX8_readArm 40 = .ok (.ifCond .ne 4, 3) := by decide +kernel
theorem dX8_readArm_43 : decode cX8_readArm 43 = .ok (.return_, 1) := by decide +kernel
theorem dX8_readArm_44 : decode cX8_readArm 44 = .ok (.aload_n 0, 1) := by decide +kernel
theorem dX8_readArm_45 : decode cX8_readArm 45 = .ok (.getfield 31, 3) := by decide +kernel
theorem dX8_readArm_48 : decode cX8_readArm 48 = .ok (.iload_n 1, 1) := by decide +kernel
theorem dX8_readArm_49 : decode cX8_readArm 49 = .ok (.iconst 1, 1) := by decide +kernel
theorem dX8_readArm_50 : decode cX8_readArm 50 = .ok (.iadd, 1) := by decide +kernel
theorem dX8_readArm_51 : decode cX8_readArm 51 = .ok (.iconst 4, 1) := by decide +kernel
theorem dX8_readArm_52 : decode cX8_readArm 52 = .ok (.iadd, 1) := by decide +kernel
theorem dX8_readArm_53 : decode cX8_readArm 53 = .ok (.iload_n 2, 1) := by decide +kernel
theorem dX8_readArm_54 : decode cX8_readArm 54 = .ok (.iastore, 1) := by decide +kernel
theorem dX8_readArm_55 : decode cX8_readArm 55 = .ok (.aload_n 0, 1) := by decide +kernel
theorem dX8_readArm_56 : decode cX8_readArm 56 = .ok (.getfield 31, 3) := by decide +kernel
theorem dX8_readArm_59 : decode cX8_readArm 59 = .ok (.bipush 6, 2) := by decide +kernel
theorem dX8_readArm_61 : decode cX8_readArm 61 = .ok (.dup2, 1) := by decide +kernel
theorem dX8_readArm_62 : decode cX8_readArm 62 = .ok (.iaload, 1) := by decide +kernel
theorem dX8_readArm_63 : decode cX8_readArm 63 = .ok (.iconst 1, 1) := by decide +kernel
theorem dX8_readArm_64 : decode cX8_readArm 64 = .ok (.iadd, 1) := by decide +kernel
theorem dX8_readArm_65 : decode cX8_readArm 65 = .ok (.iastore, 1) := by decide +kernel
theorem dX8_readArm_66 : decode cX8_readArm 66 = .ok (.return_, 1) := by decide +kernel
theorem dX8_readWalker_0 : decode cX8_readWalker 0 = .ok (.bipush 56, 2) := by decide +kernel
theorem dX8_readWalker_2 : decode cX8_readWalker 2 = .ok (.iconst 2, 1) := by decide +kernel
theorem dX8_readWalker_3 : decode cX8_readWalker 3 = .ok (.aload_n 0, 1) := by decide +kernel
theorem dX8_readWalker_4 : decode cX8_readWalker 4 = .ok (.getfield 31, 3) := by decide +kernel
theorem dX8_readWalker_7 : decode cX8_readWalker 7 = .ok (.bipush 7, 2) := by decide +kernel
theorem dX8_readWalker_9 : decode cX8_readWalker 9 = .ok (.iaload, 1) := by decide +kernel
theorem dX8_readWalker_10 : decode cX8_readWalker 10 = .ok (.imul, 1) := by decide +kernel
theorem dX8_readWalker_11 : decode cX8_readWalker 11 = .ok (.iadd, 1) := by decide +kernel
theorem dX8_readWalker_12 : decode cX8_readWalker 12 = .ok (.istore_n 1, 1) := by decide +kernel
theorem dX8_readWalker_13 : decode cX8_readWalker 13 = .ok (.aload_n 0, 1) := by decide +kernel
theorem dX8_readWalker_14 : decode cX8_readWalker 14 = .ok (.getfield 31, 3) := by decide +kernel
theorem dX8_readWalker_17 : decode cX8_readWalker 17 = .ok (.iload_n 1, 1) := by decide +kernel
theorem dX8_readWalker_18 : decode cX8_readWalker 18 = .ok (.aload_n 0, 1) := by decide +kernel
theorem dX8_readWalker_19 : decode cX8_readWalker 19 = .ok (.invokevirtual 205, 3) := by decide +kernel
theorem dX8_readWalker_22 : decode cX8_readWalker 22 = .ok (.iastore, 1) := by decide +kernel
theorem dX8_readWalker_23 : decode cX8_readWalker 23 = .ok (.aload_n 0, 1) := by decide +kernel
theorem dX8_readWalker_24 : decode cX8_readWalker 24 = .ok (.getfield 31, 3) := by decide +kernel
theorem dX8_readWalker_27 : decode cX8_readWalker 27 = .ok (.iload_n 1, 1) := by decide +kernel
theorem dX8_readWalker_28 : decode cX8_readWalker 28 = .ok (.iconst 1, 1) := by decide +kernel
theorem dX8_readWalker_29 : decode cX8_readWalker 29 = .ok (.iadd, 1) := by decide +kernel
theorem dX8_readWalker_30 : decode cX8_readWalker 30 = .ok (.aload_n 0, 1) := by decide +kernel
theorem dX8_readWalker_31 : decode cX8_readWalker 31 = .ok (.ldc 211, 2) := by decide +kernel
theorem dX8_readWalker_33 : decode cX8_readWalker 33 = .ok (.iconst 0, 1) := by decide +kernel
theorem dX8_readWalker_34 : decode cX8_readWalker 34 = .ok (.bipush 15, 2) := by decide +kernel
theorem dX8_readWalker_36 : decode cX8_readWalker 36 = .ok (.invokevirtual 197, 3) := by decide +kernel
theorem dX8_readWalker_39 : decode cX8_readWalker 39 = .ok (.iastore, 1) := by decide +kernel
theorem dX8_readWalker_40 : decode cX8_readWalker 40 = .ok (.aload_n 0, 1) := by decide +kernel
theorem dX8_readWalker_41 : decode cX8_readWalker 41 = .ok (.getfield 31, 3) := by decide +kernel
theorem dX8_readWalker_44 : decode cX8_readWalker 44 = .ok (.bipush 7, 2) := by decide +kernel
theorem dX8_readWalker_46 : decode cX8_readWalker 46 = .ok (.dup2, 1) := by decide +kernel
theorem dX8_readWalker_47 : decode cX8_readWalker 47 = .ok (.iaload, 1) := by decide +kernel
theorem dX8_readWalker_48 : decode cX8_readWalker 48 = .ok (.iconst 1, 1) := by decide +kernel
theorem dX8_readWalker_49 : decode cX8_readWalker 49 = .ok (.iadd, 1) := by decide +kernel
theorem dX8_readWalker_50 : decode cX8_readWalker 50 = .ok (.iastore, 1) := by decide +kernel
theorem dX8_readWalker_51 : decode cX8_readWalker 51 = .ok (.return_, 1) := by decide +kernel
theorem dX8_isFull_0 : decode cX8_isFull 0 = .ok (.aload_n 0, 1) := by decide +kernel
theorem dX8_isFull_1 : decode cX8_isFull 1 = .ok (.ldc 212, 2) := by decide +kernel
theorem dX8_isFull_3 : decode cX8_isFull 3 = .ok (.invokevirtual 173, 3) := by decide +kernel
theorem dX8_isFull_6 : decode cX8_isFull 6 = .ok (.ifCond .eq 13, 3) := by decide +kernel
theorem dX8_isFull_9 : decode cX8_isFull 9 = .ok (.aload_n 0, 1) := by decide +kernel
theorem dX8_isFull_10 : decode cX8_isFull 10 = .ok (.getfield 31, 3) := by decide +kernel
theorem dX8_isFull_13 : decode cX8_isFull 13 = .ok (.iconst 3, 1) := by decide +kernel
theorem dX8_isFull_14 : decode cX8_isFull 14 = .ok (.iaload, 1) := by decide +kernel
theorem dX8_isFull_15 : decode cX8_isFull 15 = .ok (.iconst 4, 1) := by decide +kernel
theorem dX8_isFull_16 : decode cX8_isFull 16 = .ok (.if_icmp .eq 43, 3) := by decide +kernel
theorem dX8_isFull_19 : decode cX8_isFull 19 = .ok (.aload_n 0, 1) := by decide +kernel
theorem dX8_isFull_20 : decode cX8_isFull 20 = .ok (.ldc 214, 2) := by decide +kernel
theorem dX8_isFull_22 : decode cX8_isFull 22 = .ok (.invokevirtual 173, 3) := by decide +kernel
theorem dX8_isFull_25 : decode cX8_isFull 25 = .ok (.ifCond .eq 14, 3) := by decide +kernel
theorem dX8_isFull_28 : decode cX8_isFull 28 = .ok (.aload_n 0, 1) := by decide +kernel
theorem dX8_isFull_29 : decode cX8_isFull 29 = .ok (.getfield 31, 3) := by decide +kernel
theorem dX8_isFull_32 : decode cX8_isFull 32 = .ok (.iconst 4, 1) := by decide +kernel
theorem dX8_isFull_33 : decode cX8_isFull 33 = .ok (.iaload, 1) := by decide +kernel
theorem dX8_isFull_34 : decode cX8_isFull 34 = .ok (.bipush 7, 2) := by decide +kernel
theorem dX8_isFull_36 : decode cX8_isFull 36 = .ok (.if_icmp .eq 23, 3) := by decide +kernel
theorem dX8_isFull_39 : decode cX8_isFull 39 = .ok (.aload_n 0, 1) := by decide +kernel
theorem dX8_isFull_40 : decode cX8_isFull 40 = .ok (.ldc 216, 2) := by decide +kernel
theorem dX8_isFull_42 : decode cX8_isFull 42 = .ok (.invokevirtual 173, 3) := by decide +kernel
theorem dX8_isFull_45 : decode cX8_isFull 45 = .ok (.ifCond .eq 16, 3) := by decide +kernel
theorem dX8_isFull_48 : decode cX8_isFull 48 = .ok (.aload_n 0, 1) := by decide +kernel
theorem dX8_isFull_49 : decode cX8_isFull 49 = .ok (.getfield 31, 3) := by decide +kernel
theorem dX8_isFull_52 : decode cX8_isFull 52 = .ok (.iconst 5, 1) := by decide +kernel
theorem dX8_isFull_53 : decode cX8_isFull 53 = .ok (.iaload, 1) := by decide +kernel
theorem dX8_isFull_54 : decode cX8_isFull 54 = .ok (.bipush 16, 2) := by decide +kernel
theorem dX8_isFull_56 : decode cX8_isFull 56 = .ok (.if_icmp .ne 5, 3) := by decide +kernel
theorem dX8_isFull_59 : decode cX8_isFull 59 = .ok (.iconst 1, 1) := by decide +kernel
theorem dX8_isFull_60 : decode cX8_isFull 60 = .ok (.ireturn, 1) := by decide +kernel
theorem dX8_isFull_61 : decode cX8_isFull 61 = .ok (.aload_n 0, 1) := by decide +kernel
theorem dX8_isFull_62 : decode cX8_isFull 62 = .ok (.ldc 218, 2) := by decide +kernel
theorem dX8_isFull_64 : decode cX8_isFull 64 = .ok (.invokevirtual 173, 3) := by decide +kernel
theorem dX8_isFull_67 : decode cX8_isFull 67 = .ok (.ifCond .eq 15, 3) := by decide +kernel
theorem dX8_isFull_70 : decode cX8_isFull 70 = .ok (.aload_n 0, 1) := by decide +kernel
theorem dX8_isFull_71 : decode cX8_isFull 71 = .ok (.getfield 31, 3) := by decide +kernel
theorem dX8_isFull_74 : decode cX8_isFull 74 = .ok (.bipush 6, 2) := by decide +kernel
theorem dX8_isFull_76 : decode cX8_isFull 76 = .ok (.iaload, 1) := by decide +kernel
theorem dX8_isFull_77 : decode cX8_isFull 77 = .ok (.bipush 8, 2) := by decide +kernel
theorem dX8_isFull_79 : decode cX8_isFull 79 = .ok (.if_icmp .eq 24, 3) := by decide +kernel
theorem dX8_isFull_82 : decode cX8_isFull 82 = .ok (.aload_n 0, 1) := by decide +kernel
theorem dX8_isFull_83 : decode cX8_isFull 83 = .ok (.ldc 220, 2) := by decide +kernel
theorem dX8_isFull_85 : decode cX8_isFull 85 = .ok (.invokevirtual 173, 3) := by decide +kernel
theorem dX8_isFull_88 : decode cX8_isFull 88 = .ok (.ifCond .eq 19, 3) := by decide +kernel
theorem dX8_isFull_91 : decode cX8_isFull 91 = .ok (.aload_n 0, 1) := by decide +kernel
theorem dX8_isFull_92 : decode cX8_isFull 92 = .ok (.getfield 31, 3) := by decide +kernel
theorem dX8_isFull_95 : decode cX8_isFull 95 = .ok (.bipush 7, 2) := by decide +kernel
theorem dX8_isFull_97 : decode cX8_isFull 97 = .ok (.iaload, 1) := by decide +kernel
theorem dX8_isFull_98 : decode cX8_isFull 98 = .ok (.bipush 8, 2) := by decide +kernel
theorem dX8_isFull_100 : decode cX8_isFull 100 = .ok (.if_icmp .ne 7, 3) := by decide +kernel
theorem dX8_isFull_103 : decode cX8_isFull 103 = .ok (.iconst 1, 1) := by decide +kernel
theorem dX8_isFull_104 : decode cX8_isFull 104 = .ok (.goto 4, 3) := by decide +kernel
theorem dX8_isFull_107 : decode cX8_isFull 107 = .ok (.iconst 0, 1) := by decide +kernel
theorem dX8_isFull_108 : decode cX8_isFull 108 = .ok (.ireturn, 1) := by decide +kernel
theorem dX8_readNext_0 : decode cX8_readNext 0 = .ok (.aload_n 0, 1) := by decide +kernel
theorem dX8_readNext_1 : decode cX8_readNext 1 = .ok (.ldc 212, 2) := by decide +kernel
theorem dX8_readNext_3 : decode cX8_readNext 3 = .ok (.invokevirtual 173, 3) := by decide +kernel
theorem dX8_readNext_6 : decode cX8_readNext 6 = .ok (.ifCond .ne 39, 3) := by decide +kernel
theorem dX8_readNext_9 : decode cX8_readNext 9 = .ok (.aload_n 0, 1) := by decide +kernel
theorem dX8_readNext_10 : decode cX8_readNext 10 = .ok (.ldc 214, 2) := by decide +kernel
theorem dX8_readNext_12 : decode cX8_readNext 12 = .ok (.invokevirtual 173, 3) := by decide +kernel
theorem dX8_readNext_15 : decode cX8_readNext 15 = .ok (.ifCond .ne 30, 3) := by decide +kernel
theorem dX8_readNext_18 : decode cX8_readNext 18 = .ok (.aload_n 0, 1) := by decide +kernel
theorem dX8_readNext_19 : decode cX8_readNext 19 = .ok (.ldc 216, 2) := by decide +kernel
theorem dX8_readNext_21 : decode cX8_readNext 21 = .ok (.invokevirtual 173, 3) := by decide +kernel
theorem dX8_readNext_24 : decode cX8_readNext 24 = .ok (.ifCond .ne 21, 3) := by decide +kernel
theorem dX8_readNext_27 : decode cX8_readNext 27 = .ok (.aload_n 0, 1) := by decide +kernel
theorem dX8_readNext_28 : decode cX8_readNext 28 = .ok (.ldc 218, 2) := by decide +kernel
theorem dX8_readNext_30 : decode cX8_readNext 30 = .ok (.invokevirtual 173, 3) := by decide +kernel
theorem dX8_readNext_33 : decode cX8_readNext 33 = .ok (.ifCond .ne 12, 3) := by decide +kernel
theorem dX8_readNext_36 : decode cX8_readNext 36 = .ok (.aload_n 0, 1) := by decide +kernel
theorem dX8_readNext_37 : decode cX8_readNext 37 = .ok (.ldc 220, 2) := by decide +kernel
theorem dX8_readNext_39 : decode cX8_readNext 39 = .ok (.invokevirtual 173, 3) := by decide +kernel
theorem dX8_readNext_42 : decode cX8_readNext 42 = .ok (.ifCond .eq 7, 3) := by decide +kernel
theorem dX8_readNext_45 : decode cX8_readNext 45 = .ok (.iconst 1, 1) := by decide +kernel
theorem dX8_readNext_46 : decode cX8_readNext 46 = .ok (.goto 4, 3) := by decide +kernel
theorem dX8_readNext_49 : decode cX8_readNext 49 = .ok (.iconst 0, 1) := by decide +kernel
theorem dX8_readNext_50 : decode cX8_readNext 50 = .ok (.istore_n 1, 1) := by decide +kernel
theorem dX8_readNext_51 : decode cX8_readNext 51 = .ok (.iload_n 1, 1) := by decide +kernel
theorem dX8_readNext_52 : decode cX8_readNext 52 = .ok (.ifCond .ne 8, 3) := by decide +kernel
theorem dX8_readNext_55 : decode cX8_readNext 55 = .ok (.aload_n 0, 1) := by decide +kernel
theorem dX8_readNext_56 : decode cX8_readNext 56 = .ok (.iconst 1, 1) := by decide +kernel
theorem dX8_readNext_57 : decode cX8_readNext 57 = .ok (.invokevirtual 183, 3) := by decide +kernel
theorem dX8_readNext_60 : decode cX8_readNext 60 = .ok (.aload_n 0, 1) := by decide +kernel
theorem dX8_readNext_61 : decode cX8_readNext 61 = .ok (.invokevirtual 222, 3) := by decide +kernel
theorem dX8_readNext_64 : decode cX8_readNext 64 = .ok (.ifCond .eq 8, 3) := by decide +kernel
theorem dX8_readNext_67 : decode cX8_readNext 67 = .ok (.aload_n 0, 1) := by decide +kernel
theorem dX8_readNext_68 : decode cX8_readNext 68 = .ok (.iconst 3, 1) := by decide +kernel
theorem dX8_readNext_69 : decode cX8_readNext 69 = .ok (.invokevirtual 183, 3) := by decide +kernel
theorem dX8_readNext_72 : decode cX8_readNext 72 = .ok (.aload_n 0, 1) := by decide +kernel
theorem dX8_readNext_73 : decode cX8_readNext 73 = .ok (.invokevirtual 161, 3) := by decide +kernel
theorem dX8_readNext_76 : decode cX8_readNext 76 = .ok (.ifCond .ne 4, 3) := by decide +kernel
theorem dX8_readNext_79 : decode cX8_readNext 79 = .ok (.return_, 1) := by decide +kernel
theorem dX8_readNext_80 : decode cX8_readNext 80 = .ok (.aload_n 0, 1) := by decide +kernel
theorem dX8_readNext_81 : decode cX8_readNext 81 = .ok (.ldc 212, 2) := by decide +kernel
theorem dX8_readNext_83 : decode cX8_readNext 83 = .ok (.invokevirtual 180, 3) := by decide +kernel
theorem dX8_readNext_86 : decode cX8_readNext 86 = .ok (.ifCond .eq 39, 3) := by decide +kernel
theorem dX8_readNext_89 : decode cX8_readNext 89 = .ok (.aload_n 0, 1) := by decide +kernel
theorem dX8_readNext_90 : decode cX8_readNext 90 = .ok (.getfield 31, 3) := by decide +kernel
theorem dX8_readNext_93 : decode cX8_readNext 93 = .ok (.bipush 10, 2) := by decide +kernel
theorem dX8_readNext_95 : decode cX8_readNext 95 = .ok (.aload_n 0, 1) := by decide +kernel
theorem dX8_readNext_96 : decode cX8_readNext 96 = .ok (.getfield 31, 3) := by decide +kernel
theorem dX8_readNext_99 : decode cX8_readNext 99 = .ok (.iconst 3, 1) := by decide +kernel
theorem dX8_readNext_100 : decode cX8_readNext 100 = .ok (.iaload, 1) := by decide +kernel
theorem dX8_readNext_101 : decode cX8_readNext 101 = .ok (.iadd, 1) := by decide +kernel
theorem dX8_readNext_102 : decode cX8_readNext 102 = .ok (.aload_n 0, 1) := by decide +kernel
theorem dX8_readNext_103 : decode cX8_readNext 103 = .ok (.ldc 225, 2) := by decide +kernel
theorem dX8_readNext_105 : decode cX8_readNext 105 = .ok (.iconst 0, 1) := by decide +kernel
theorem dX8_readNext_106 : decode cX8_readNext 106 = .ok (.bipush 9, 2) := by decide +kernel
theorem dX8_readNext_108 : decode cX8_readNext 108 = .ok (.invokevirtual 197, 3) := by decide +kernel
theorem dX8_readNext_111 : decode cX8_readNext 111 = .ok (.iastore, 1) := by decide +kernel
theorem dX8_readNext_112 : decode cX8_readNext 112 = .ok (.aload_n 0, 1) := by decide +kernel
theorem dX8_readNext_113 : decode cX8_readNext 113 = .ok (.getfield 31, 3) := by decide +kernel
theorem dX8_readNext_116 : decode cX8_readNext 116 = .ok (.iconst 3, 1) := by decide +kernel
theorem dX8_readNext_117 : decode cX8_readNext 117 = .ok (.dup2, 1) := by decide +kernel
theorem dX8_readNext_118 : decode cX8_readNext 118 = .ok (.iaload, 1) := by decide +kernel
theorem dX8_readNext_119 : decode cX8_readNext 119 = .ok (.iconst 1, 1) := by decide +kernel
theorem dX8_readNext_120 : decode cX8_readNext 120 = .ok (.iadd, 1) := by decide +kernel
theorem dX8_readNext_121 : decode cX8_readNext 121 = .ok (.iastore, 1) := by decide +kernel
theorem dX8_readNext_122 : decode cX8_readNext 122 = .ok (.goto 65, 3) := by decide +kernel
theorem dX8_readNext_125 : decode cX8_readNext 125 = .ok (.aload_n 0, 1) := by decide +kernel
theorem dX8_readNext_126 : decode cX8_readNext 126 = .ok (.ldc 214, 2) := by decide +kernel
theorem dX8_readNext_128 : decode cX8_readNext 128 = .ok (.invokevirtual 180, 3) := by decide +kernel
theorem dX8_readNext_131 : decode cX8_readNext 131 = .ok (.ifCond .eq 16, 3) := by decide +kernel
theorem dX8_readNext_134 : decode cX8_readNext 134 = .ok (.aload_n 0, 1) := by decide +kernel
theorem dX8_readNext_135 : decode cX8_readNext 135 = .ok (.getfield 31, 3) := by decide +kernel
theorem dX8_readNext_138 : decode cX8_readNext 138 = .ok (.iconst 4, 1) := by decide +kernel
theorem dX8_readNext_139 : decode cX8_readNext 139 = .ok (.dup2, 1) := by decide +kernel
theorem dX8_readNext_140 : decode cX8_readNext 140 = .ok (.iaload, 1) := by decide +kernel
theorem dX8_readNext_141 : decode cX8_readNext 141 = .ok (.iconst 1, 1) := by decide +kernel
theorem dX8_readNext_142 : decode cX8_readNext 142 = .ok (.iadd, 1) := by decide +kernel
theorem dX8_readNext_143 : decode cX8_readNext 143 = .ok (.iastore, 1) := by decide +kernel
theorem dX8_readNext_144 : decode cX8_readNext 144 = .ok (.goto 43, 3) := by decide +kernel
theorem dX8_readNext_147 : decode cX8_readNext 147 = .ok (.aload_n 0, 1) := by decide +kernel
theorem dX8_readNext_148 : decode cX8_readNext 148 = .ok (.ldc 216, 2) := by decide +kernel
theorem dX8_readNext_150 : decode cX8_readNext 150 = .ok (.invokevirtual 180, 3) := by decide +kernel
theorem dX8_readNext_153 : decode cX8_readNext 153 = .ok (.ifCond .eq 10, 3) := by decide +kernel
theorem dX8_readNext_156 : decode cX8_readNext 156 = .ok (.aload_n 0, 1) := by decide +kernel
theorem dX8_readNext_157 : decode cX8_readNext 157 = .ok (.invokevirtual 227, 3) := by decide +kernel
theorem dX8_readNext_160 : decode cX8_readNext 160 = .ok (.goto 27, 3) := by decide +kernel
theorem dX8_readNext_163 : decode cX8_readNext 163 = .ok (.aload_n 0, 1) := by decide +kernel
theorem dX8_readNext_164 : decode cX8_readNext 164 = .ok (.ldc 218, 2) := by decide +kernel
theorem dX8_readNext_166 : decode cX8_readNext 166 = .ok (.invokevirtual 180, 3) := by decide +kernel
theorem dX8_readNext_169 : decode cX8_readNext 169 = .ok (.ifCond .eq 10, 3) := by decide +kernel
theorem dX8_readNext_172 : decode cX8_readNext 172 = .ok (.aload_n 0, 1) := by decide +kernel
theorem dX8_readNext_173 : decode cX8_readNext 173 = .ok (.invokevirtual 230, 3) := by decide +kernel
theorem dX8_readNext_176 : decode cX8_readNext 176 = .ok (.goto 11, 3) := by decide +kernel
theorem dX8_readNext_179 : decode cX8_readNext 179 = .ok (.aload_n 0, 1) := by decide +kernel
theorem dX8_readNext_180 : decode cX8_readNext 180 = .ok (.invokevirtual 177, 3) := by decide +kernel
theorem dX8_readNext_183 : decode cX8_readNext 183 = .ok (.aload_n 0, 1) := by decide +kernel
theorem dX8_readNext_184 : decode cX8_readNext 184 = .ok (.invokevirtual 233, 3) := by decide +kernel
theorem dX8_readNext_187 : decode cX8_readNext 187 = .ok (.return_, 1) := by decide +kernel
theorem dX8_readLine_0 : decode cX8_readLine 0 = .ok (.aload_n 0, 1) := by decide +kernel
theorem dX8_readLine_1 : decode cX8_readLine 1 = .ok (.getfield 31, 3) := by decide +kernel
theorem dX8_readLine_4 : decode cX8_readLine 4 = .ok (.bipush 9, 2) := by decide +kernel
theorem dX8_readLine_6 : decode cX8_readLine 6 = .ok (.iaload, 1) := by decide +kernel
theorem dX8_readLine_7 : decode cX8_readLine 7 = .ok (.ifCond .ne 10, 3) := by decide +kernel
theorem dX8_readLine_10 : decode cX8_readLine 10 = .ok (.aload_n 0, 1) := by decide +kernel
theorem dX8_readLine_11 : decode cX8_readLine 11 = .ok (.invokevirtual 236, 3) := by decide +kernel
theorem dX8_readLine_14 : decode cX8_readLine 14 = .ok (.goto 7, 3) := by decide +kernel
theorem dX8_readLine_17 : decode cX8_readLine 17 = .ok (.aload_n 0, 1) := by decide +kernel
theorem dX8_readLine_18 : decode cX8_readLine 18 = .ok (.invokevirtual 239, 3) := by decide +kernel
theorem dX8_readLine_21 : decode cX8_readLine 21 = .ok (.aload_n 0, 1) := by decide +kernel
theorem dX8_readLine_22 : decode cX8_readLine 22 = .ok (.invokevirtual 161, 3) := by decide +kernel
theorem dX8_readLine_25 : decode cX8_readLine 25 = .ok (.ifCond .eq 16, 3) := by decide +kernel
theorem dX8_readLine_28 : decode cX8_readLine 28 = .ok (.aload_n 0, 1) := by decide +kernel
theorem dX8_readLine_29 : decode cX8_readLine 29 = .ok (.getfield 137, 3) := by decide +kernel
theorem dX8_readLine_32 : decode cX8_readLine 32 = .ok (.iconst 3, 1) := by decide +kernel
theorem dX8_readLine_33 : decode cX8_readLine 33 = .ok (.if_icmp .eq 8, 3) := by decide +kernel
theorem dX8_readLine_36 : decode cX8_readLine 36 = .ok (.aload_n 0, 1) := by decide +kernel
theorem dX8_readLine_37 : decode cX8_readLine 37 = .ok (.iconst 1, 1) := by decide +kernel
theorem dX8_readLine_38 : decode cX8_readLine 38 = .ok (.invokevirtual 183, 3) := by decide +kernel
theorem dX8_readLine_41 : decode cX8_readLine 41 = .ok (.aload_n 0, 1) := by decide +kernel
theorem dX8_readLine_42 : decode cX8_readLine 42 = .ok (.invokevirtual 161, 3) := by decide +kernel
theorem dX8_readLine_45 : decode cX8_readLine 45 = .ok (.ifCond .eq 7, 3) := by decide +kernel
theorem dX8_readLine_48 : decode cX8_readLine 48 = .ok (.aload_n 0, 1) := by decide +kernel
theorem dX8_readLine_49 : decode cX8_readLine 49 = .ok (.invokevirtual 177, 3) := by decide +kernel
theorem dX8_readLine_52 : decode cX8_readLine 52 = .ok (.aload_n 0, 1) := by decide +kernel
theorem dX8_readLine_53 : decode cX8_readLine 53 = .ok (.getfield 31, 3) := by decide +kernel
theorem dX8_readLine_56 : decode cX8_readLine 56 = .ok (.bipush 9, 2) := by decide +kernel
theorem dX8_readLine_58 : decode cX8_readLine 58 = .ok (.dup2, 1) := by decide +kernel
theorem dX8_readLine_59 : decode cX8_readLine 59 = .ok (.iaload, 1) := by decide +kernel
theorem dX8_readLine_60 : decode cX8_readLine 60 = .ok (.iconst 1, 1) := by decide +kernel
theorem dX8_readLine_61 : decode cX8_readLine 61 = .ok (.iadd, 1) := by decide +kernel
theorem dX8_readLine_62 : decode cX8_readLine 62 = .ok (.iastore, 1) := by decide +kernel
theorem dX8_readLine_63 : decode cX8_readLine 63 = .ok (.return_, 1) := by decide +kernel
def chK (i k : Nat) : Int32 := (strB.getD i []).getD k 0 &&& 255
def IsW (i : Nat) (c t : Nat → Int32) : Prop := c 12 = 0 ∧ c 10 = 1 ∧ c 8 - c 9 = nI (strB.getD i []).length ∧ ∀ k, k < (strB.getD i []).length → t ((c 9).toInt.toNat + k) = chK i k
theorem sb_v {p : Program} {l : Launch} {e : Env} {s : State} {m : MethodId} {args : Array Value} {below : List Frame} {meth : Method} {c : Code} {own : String} {cc : ByteArray} {nL : Nat} {G : va_G} {cy : Nat → ClassId} {A : Nat → Prop} {Rm : Room} {cells slots : Nat} {Q : State → Prop} {L : List Nat} {M : Nat → va_E} {pc : Nat} {lv : List (Nat × Value)} {st : List Value} (X : Cx p s m args meth c own cc nL G cy A) {i : Nat} {j v : Int32} (hi : i < 26) (hin : vp_in j (strB.getD i []).length) (hv : (strB.getD i []).getD j.toNatClampNeg 0 = v) (hd : decode cc pc = .ok (.baload, 1)) (k : Go p l e Rm s m args below meth c nL G A cells slots Q L M (pc + 1) lv (.int v :: st)) : Go p l e Rm s m args below meth c nL G A cells slots Q L M pc lv (.int j :: .ref (G.2 1001 i) :: st) := fun H locs ls hP hD hS hl => va_tb X.1 X.2.1 (X.sc.1 i hi).2.2.2 hS hin (congrArg Value.int hv) hd (k H locs ls hP hD hS hl)
theorem wd958 : Cond.fieldLink RX8 24 RX8 "five" "[I" ∈ tblG := gw6 40 (by decide +kernel) (by decide +kernel)
theorem fk_X8_24 : FLk RX8 24 8 6 (.array .int) true := ⟨RX8, TX8, 41, tyX8, clX8, by decide, rfl, rfl, rfl, Or.inl wd958⟩
theorem wd959 : Cond.fieldLink RX8 20 RX8 "tape" "[B" ∈ tblG := gw6 38 (by decide +kernel) (by decide +kernel)
theorem fk_X8_20 : FLk RX8 20 8 4 (.array .byte) true := ⟨RX8, TX8, 41, tyX8, clX8, by decide, rfl, rfl, rfl, Or.inl wd959⟩
theorem wd960 : Cond.fieldLink RX8 27 RX8 "faultPlace" "I" ∈ tblG := gw6 47 (by decide +kernel) (by decide +kernel)
theorem fk_X8_27 : FLk RX8 27 8 13 (.int) false := ⟨RX8, TX8, 41, tyX8, clX8, by decide, rfl, rfl, rfl, Or.inl wd960⟩
theorem wd961 : Cond.fieldLink RX8 158 RX8 "faultKind" "I" ∈ tblG := gw6 46 (by decide +kernel) (by decide +kernel)
theorem fk_X8_158 : FLk RX8 158 8 12 (.int) false := ⟨RX8, TX8, 41, tyX8, clX8, by decide, rfl, rfl, rfl, Or.inl wd961⟩
theorem wd962 : Cond.fieldLink RX8 124 RX8 "size" "I" ∈ tblG := gw6 41 (by decide +kernel) (by decide +kernel)
theorem fk_X8_124 : FLk RX8 124 8 7 (.int) false := ⟨RX8, TX8, 41, tyX8, clX8, by decide, rfl, rfl, rfl, Or.inl wd962⟩
theorem wd963 : Cond.fieldLink RX8 127 RX8 "at" "I" ∈ tblG := gw6 42 (by decide +kernel) (by decide +kernel)
theorem fk_X8_127 : FLk RX8 127 8 8 (.int) false := ⟨RX8, TX8, 41, tyX8, clX8, by decide, rfl, rfl, rfl, Or.inl wd963⟩
theorem wd964 : Cond.methodLink RX8 130 yX8_see ∈ tblG := gw6 191 (by decide +kernel) (by decide +kernel)
theorem wd965 : Cond.instanceMethod yX8_see ∈ tblG := gw6 193 (by decide +kernel) (by decide +kernel)
theorem wd966 : Cond.selects RX8 yX8_see yX8_see ∈ tblG := gw0 48 (by decide +kernel) (by decide +kernel)
theorem wd967 : Cond.code yX8_see cX8_see 2 (some .int) ∈ tblG := gw6 194 (by decide +kernel) (by decide +kernel)
theorem pl_X8_see : Plain yX8_see 1 := ⟨by decide, by decide, by decide +kernel⟩
theorem lk_X8_130 : LkV RX8 130 8 yX8_see cX8_see 2 (some .int) 1 := ⟨⟨TX8, 41, rfl⟩, wd964, wd965, wd966, wd649, wd967, pl_X8_see⟩
theorem wd968 : Cond.fieldLink RX8 134 RX8 "from" "I" ∈ tblG := gw6 43 (by decide +kernel) (by decide +kernel)
theorem fk_X8_134 : FLk RX8 134 8 9 (.int) false := ⟨RX8, TX8, 41, tyX8, clX8, by decide, rfl, rfl, rfl, Or.inl wd968⟩
theorem wd969 : Cond.fieldLink RX8 137 RX8 "token" "I" ∈ tblG := gw6 44 (by decide +kernel) (by decide +kernel)
theorem fk_X8_137 : FLk RX8 137 8 10 (.int) false := ⟨RX8, TX8, 41, tyX8, clX8, by decide, rfl, rfl, rfl, Or.inl wd969⟩
theorem wd970 : Cond.constantLong RX8 140 (97) ∈ tblG := gw6 195 (by decide +kernel) (by decide +kernel)
theorem wd971 : Cond.constantLong RX8 142 (122) ∈ tblG := gw6 196 (by decide +kernel) (by decide +kernel)
theorem wd972 : Cond.constantLong RX8 144 (48) ∈ tblG := gw6 197 (by decide +kernel) (by decide +kernel)
theorem wd973 : Cond.constantLong RX8 146 (57) ∈ tblG := gw6 198 (by decide +kernel) (by decide +kernel)
theorem wd974 : Cond.fieldLink RX8 148 RX8 "value" "I" ∈ tblG := gw6 45 (by decide +kernel) (by decide +kernel)
theorem fk_X8_148 : FLk RX8 148 8 11 (.int) false := ⟨RX8, TX8, 41, tyX8, clX8, by decide, rfl, rfl, rfl, Or.inl wd974⟩
theorem wd975 : Cond.constant RX8 151 (99999) ∈ tblG := gw6 199 (by decide +kernel) (by decide +kernel)
theorem wd976 : Cond.methodLink RX8 152 yJ9_min_7cf53 ∈ tblG := gw6 200 (by decide +kernel) (by decide +kernel)
theorem wd977 : Cond.methodLink RX8 161 yX8_good ∈ tblG := gw6 201 (by decide +kernel) (by decide +kernel)
theorem wd978 : Cond.instanceMethod yX8_good ∈ tblG := gw6 203 (by decide +kernel) (by decide +kernel)
theorem wd979 : Cond.selects RX8 yX8_good yX8_good ∈ tblG := gw0 49 (by decide +kernel) (by decide +kernel)
theorem wd980 : Cond.code yX8_good cX8_good 1 (some .boolean) ∈ tblG := gw6 204 (by decide +kernel) (by decide +kernel)
theorem pl_X8_good : Plain yX8_good 0 := ⟨by decide, by decide, by decide +kernel⟩
theorem lk_X8_161 : LkV RX8 161 8 yX8_good cX8_good 1 (some .boolean) 0 := ⟨⟨TX8, 41, rfl⟩, wd977, wd978, wd979, wd649, wd980, pl_X8_good⟩
theorem wd981 : Cond.methodLink RX8 164 yJ0_length_8abf5 ∈ tblG := gw6 226 (by decide +kernel) (by decide +kernel)
theorem wd982 : Cond.methodLink RX8 169 yJ0_charAt_5068e ∈ tblG := gw6 227 (by decide +kernel) (by decide +kernel)
theorem wd983 : Cond.methodLink RX8 173 yX8_is ∈ tblG := gw6 222 (by decide +kernel) (by decide +kernel)
theorem wd984 : Cond.instanceMethod yX8_is ∈ tblG := gw6 224 (by decide +kernel) (by decide +kernel)
theorem wd985 : Cond.selects RX8 yX8_is yX8_is ∈ tblG := gw0 54 (by decide +kernel) (by decide +kernel)
theorem wd986 : Cond.code yX8_is cX8_is 4 (some .boolean) ∈ tblG := gw6 225 (by decide +kernel) (by decide +kernel)
theorem pl_X8_is : Plain yX8_is 1 := ⟨by decide, by decide, by decide +kernel⟩
theorem lk_X8_173 : LkV RX8 173 8 yX8_is cX8_is 4 (some .boolean) 1 := ⟨⟨TX8, 41, rfl⟩, wd983, wd984, wd985, wd649, wd986, pl_X8_is⟩
theorem wd987 : Cond.methodLink RX8 177 yX8_advance ∈ tblG := gw6 187 (by decide +kernel) (by decide +kernel)
theorem wd988 : Cond.instanceMethod yX8_advance ∈ tblG := gw6 189 (by decide +kernel) (by decide +kernel)
theorem wd989 : Cond.selects RX8 yX8_advance yX8_advance ∈ tblG := gw0 47 (by decide +kernel) (by decide +kernel)
theorem wd990 : Cond.code yX8_advance cX8_advance 2 none ∈ tblG := gw6 190 (by decide +kernel) (by decide +kernel)
theorem pl_X8_advance : Plain yX8_advance 0 := ⟨by decide, by decide, by decide +kernel⟩
theorem lk_X8_177 : LkV RX8 177 8 yX8_advance cX8_advance 2 none 0 := ⟨⟨TX8, 41, rfl⟩, wd987, wd988, wd989, wd649, wd990, pl_X8_advance⟩
theorem wd991 : Cond.methodLink RX8 180 yX8_takes ∈ tblG := gw6 218 (by decide +kernel) (by decide +kernel)
theorem wd992 : Cond.instanceMethod yX8_takes ∈ tblG := gw6 220 (by decide +kernel) (by decide +kernel)
theorem wd993 : Cond.selects RX8 yX8_takes yX8_takes ∈ tblG := gw0 53 (by decide +kernel) (by decide +kernel)
theorem wd994 : Cond.code yX8_takes cX8_takes 3 (some .boolean) ∈ tblG := gw6 221 (by decide +kernel) (by decide +kernel)
theorem pl_X8_takes : Plain yX8_takes 1 := ⟨by decide, by decide, by decide +kernel⟩
theorem lk_X8_180 : LkV RX8 180 8 yX8_takes cX8_takes 3 (some .boolean) 1 := ⟨⟨TX8, 41, rfl⟩, wd991, wd992, wd993, wd649, wd994, pl_X8_takes⟩
theorem wd995 : Cond.methodLink RX8 183 yX8_errs ∈ tblG := gw6 228 (by decide +kernel) (by decide +kernel)
theorem wd996 : Cond.instanceMethod yX8_errs ∈ tblG := gw6 230 (by decide +kernel) (by decide +kernel)
theorem wd997 : Cond.selects RX8 yX8_errs yX8_errs ∈ tblG := gw0 55 (by decide +kernel) (by decide +kernel)
theorem wd998 : Cond.code yX8_errs cX8_errs 2 none ∈ tblG := gw6 231 (by decide +kernel) (by decide +kernel)
theorem pl_X8_errs : Plain yX8_errs 1 := ⟨by decide, by decide, by decide +kernel⟩
theorem lk_X8_183 : LkV RX8 183 8 yX8_errs cX8_errs 2 none 1 := ⟨⟨TX8, 41, rfl⟩, wd995, wd996, wd997, wd649, wd998, pl_X8_errs⟩
theorem wd999 : Cond.methodLink RX8 187 yX8_expects ∈ tblG := gw6 214 (by decide +kernel) (by decide +kernel)
theorem wd1000 : Cond.instanceMethod yX8_expects ∈ tblG := gw6 216 (by decide +kernel) (by decide +kernel)
theorem wd1001 : Cond.selects RX8 yX8_expects yX8_expects ∈ tblG := gw0 52 (by decide +kernel) (by decide +kernel)
theorem wd1002 : Cond.code yX8_expects cX8_expects 2 none ∈ tblG := gw6 217 (by decide +kernel) (by decide +kernel)
theorem pl_X8_expects : Plain yX8_expects 1 := ⟨by decide, by decide, by decide +kernel⟩
theorem lk_X8_187 : LkV RX8 187 8 yX8_expects cX8_expects 2 none 1 := ⟨⟨TX8, 41, rfl⟩, wd999, wd1000, wd1001, wd649, wd1002, pl_X8_expects⟩
theorem wd1003 : Cond.methodLink RX8 191 yX8_number ∈ tblG := gw6 237 (by decide +kernel) (by decide +kernel)
theorem wd1004 : Cond.instanceMethod yX8_number ∈ tblG := gw6 239 (by decide +kernel) (by decide +kernel)
theorem wd1005 : Cond.selects RX8 yX8_number yX8_number ∈ tblG := gw0 57 (by decide +kernel) (by decide +kernel)
theorem wd1006 : Cond.code yX8_number cX8_number 4 (some .int) ∈ tblG := gw7 0 (by decide +kernel) (by decide +kernel)
theorem pl_X8_number : Plain yX8_number 2 := ⟨by decide, by decide, by decide +kernel⟩
theorem lk_X8_191 : LkV RX8 191 8 yX8_number cX8_number 4 (some .int) 2 := ⟨⟨TX8, 41, rfl⟩, wd1003, wd1004, wd1005, wd649, wd1006, pl_X8_number⟩
theorem wd1007 : Cond.fieldLink RX8 31 RX8 "fresh" "[I" ∈ tblG := gw6 48 (by decide +kernel) (by decide +kernel)
theorem fk_X8_31 : FLk RX8 31 8 14 (.array .int) true := ⟨RX8, TX8, 41, tyX8, clX8, by decide, rfl, rfl, rfl, Or.inl wd1007⟩
theorem wd1008 : Cond.methodLink RX8 197 yX8_toldBy ∈ tblG := gw6 233 (by decide +kernel) (by decide +kernel)
theorem wd1009 : Cond.instanceMethod yX8_toldBy ∈ tblG := gw6 235 (by decide +kernel) (by decide +kernel)
theorem wd1010 : Cond.selects RX8 yX8_toldBy yX8_toldBy ∈ tblG := gw0 56 (by decide +kernel) (by decide +kernel)
theorem wd1011 : Cond.code yX8_toldBy cX8_toldBy 4 (some .int) ∈ tblG := gw6 236 (by decide +kernel) (by decide +kernel)
theorem pl_X8_toldBy : Plain yX8_toldBy 3 := ⟨by decide, by decide, by decide +kernel⟩
theorem lk_X8_197 : LkV RX8 197 8 yX8_toldBy cX8_toldBy 4 (some .int) 3 := ⟨⟨TX8, 41, rfl⟩, wd1008, wd1009, wd1010, wd649, wd1011, pl_X8_toldBy⟩
theorem wd1012 : Cond.methodLink RX8 205 yX8_readPost ∈ tblG := gw7 21 (by decide +kernel) (by decide +kernel)
theorem wd1013 : Cond.instanceMethod yX8_readPost ∈ tblG := gw7 23 (by decide +kernel) (by decide +kernel)
theorem wd1014 : Cond.selects RX8 yX8_readPost yX8_readPost ∈ tblG := gw0 61 (by decide +kernel) (by decide +kernel)
theorem wd1015 : Cond.code yX8_readPost cX8_readPost 1 (some .int) ∈ tblG := gw7 24 (by decide +kernel) (by decide +kernel)
theorem pl_X8_readPost : Plain yX8_readPost 0 := ⟨by decide, by decide, by decide +kernel⟩
theorem lk_X8_205 : LkV RX8 205 8 yX8_readPost cX8_readPost 1 (some .int) 0 := ⟨⟨TX8, 41, rfl⟩, wd1012, wd1013, wd1014, wd649, wd1015, pl_X8_readPost⟩
theorem wd1016 : Cond.methodLink RX8 222 yX8_isFull ∈ tblG := gw7 12 (by decide +kernel) (by decide +kernel)
theorem wd1017 : Cond.instanceMethod yX8_isFull ∈ tblG := gw7 14 (by decide +kernel) (by decide +kernel)
theorem wd1018 : Cond.selects RX8 yX8_isFull yX8_isFull ∈ tblG := gw0 59 (by decide +kernel) (by decide +kernel)
theorem wd1019 : Cond.code yX8_isFull cX8_isFull 1 (some .boolean) ∈ tblG := gw7 15 (by decide +kernel) (by decide +kernel)
theorem pl_X8_isFull : Plain yX8_isFull 0 := ⟨by decide, by decide, by decide +kernel⟩
theorem lk_X8_222 : LkV RX8 222 8 yX8_isFull cX8_isFull 1 (some .boolean) 0 := ⟨⟨TX8, 41, rfl⟩, wd1016, wd1017, wd1018, wd649, wd1019, pl_X8_isFull⟩
theorem wd1020 : Cond.methodLink RX8 227 yX8_readRoad ∈ tblG := gw7 17 (by decide +kernel) (by decide +kernel)
theorem wd1021 : Cond.instanceMethod yX8_readRoad ∈ tblG := gw7 19 (by decide +kernel) (by decide +kernel)
theorem wd1022 : Cond.selects RX8 yX8_readRoad yX8_readRoad ∈ tblG := gw0 60 (by decide +kernel) (by decide +kernel)
theorem wd1023 : Cond.code yX8_readRoad cX8_readRoad 5 none ∈ tblG := gw7 20 (by decide +kernel) (by decide +kernel)
theorem pl_X8_readRoad : Plain yX8_readRoad 0 := ⟨by decide, by decide, by decide +kernel⟩
theorem lk_X8_227 : LkV RX8 227 8 yX8_readRoad cX8_readRoad 5 none 0 := ⟨⟨TX8, 41, rfl⟩, wd1020, wd1021, wd1022, wd649, wd1023, pl_X8_readRoad⟩
theorem wd1024 : Cond.methodLink RX8 230 yX8_readArm ∈ tblG := gw7 27 (by decide +kernel) (by decide +kernel)
theorem wd1025 : Cond.instanceMethod yX8_readArm ∈ tblG := gw7 29 (by decide +kernel) (by decide +kernel)
theorem wd1026 : Cond.selects RX8 yX8_readArm yX8_readArm ∈ tblG := gw0 62 (by decide +kernel) (by decide +kernel)
theorem wd1027 : Cond.code yX8_readArm cX8_readArm 3 none ∈ tblG := gw7 30 (by decide +kernel) (by decide +kernel)
theorem pl_X8_readArm : Plain yX8_readArm 0 := ⟨by decide, by decide, by decide +kernel⟩
theorem lk_X8_230 : LkV RX8 230 8 yX8_readArm cX8_readArm 3 none 0 := ⟨⟨TX8, 41, rfl⟩, wd1024, wd1025, wd1026, wd649, wd1027, pl_X8_readArm⟩
theorem wd1028 : Cond.methodLink RX8 233 yX8_readWalker ∈ tblG := gw7 31 (by decide +kernel) (by decide +kernel)
theorem wd1029 : Cond.instanceMethod yX8_readWalker ∈ tblG := gw7 33 (by decide +kernel) (by decide +kernel)
theorem wd1030 : Cond.selects RX8 yX8_readWalker yX8_readWalker ∈ tblG := gw0 63 (by decide +kernel) (by decide +kernel)
theorem wd1031 : Cond.code yX8_readWalker cX8_readWalker 2 none ∈ tblG := gw7 34 (by decide +kernel) (by decide +kernel)
theorem pl_X8_readWalker : Plain yX8_readWalker 0 := ⟨by decide, by decide, by decide +kernel⟩
theorem lk_X8_233 : LkV RX8 233 8 yX8_readWalker cX8_readWalker 2 none 0 := ⟨⟨TX8, 41, rfl⟩, wd1028, wd1029, wd1030, wd649, wd1031, pl_X8_readWalker⟩
theorem wd1032 : Cond.methodLink RX8 239 yX8_readNext ∈ tblG := gw7 3 (by decide +kernel) (by decide +kernel)
theorem wd1033 : Cond.instanceMethod yX8_readNext ∈ tblG := gw7 5 (by decide +kernel) (by decide +kernel)
theorem wd1034 : Cond.selects RX8 yX8_readNext yX8_readNext ∈ tblG := gw0 58 (by decide +kernel) (by decide +kernel)
theorem wd1035 : Cond.code yX8_readNext cX8_readNext 2 none ∈ tblG := gw7 6 (by decide +kernel) (by decide +kernel)
theorem pl_X8_readNext : Plain yX8_readNext 0 := ⟨by decide, by decide, by decide +kernel⟩
theorem lk_X8_239 : LkV RX8 239 8 yX8_readNext cX8_readNext 2 none 0 := ⟨⟨TX8, 41, rfl⟩, wd1032, wd1033, wd1034, wd649, wd1035, pl_X8_readNext⟩
theorem wd1036 : Cond.methodLink RX8 236 yX8_readFirst ∈ tblG := gw6 209 (by decide +kernel) (by decide +kernel)
theorem wd1037 : Cond.instanceMethod yX8_readFirst ∈ tblG := gw6 211 (by decide +kernel) (by decide +kernel)
theorem wd1038 : Cond.selects RX8 yX8_readFirst yX8_readFirst ∈ tblG := gw0 51 (by decide +kernel) (by decide +kernel)
theorem wd1039 : Cond.code yX8_readFirst cX8_readFirst 1 none ∈ tblG := gw6 212 (by decide +kernel) (by decide +kernel)
theorem pl_X8_readFirst : Plain yX8_readFirst 0 := ⟨by decide, by decide, by decide +kernel⟩
theorem lk_X8_236 : LkV RX8 236 8 yX8_readFirst cX8_readFirst 1 none 0 := ⟨⟨TX8, 41, rfl⟩, wd1036, wd1037, wd1038, wd649, wd1039, pl_X8_readFirst⟩
