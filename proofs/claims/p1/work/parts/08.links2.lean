theorem dX8_init_0 : decode cX8_init 0 = .ok (.aload_n 0, 1) := by decide +kernel
theorem dX8_init_1 : decode cX8_init 1 = .ok (.invokespecial 3, 3) := by decide +kernel
theorem dX8_init_4 : decode cX8_init 4 = .ok (.aload_n 0, 1) := by decide +kernel
theorem dX8_init_5 : decode cX8_init 5 = .ok (.bipush 102, 2) := by decide +kernel
theorem dX8_init_7 : decode cX8_init 7 = .ok (.newarray .int, 2) := by decide +kernel
theorem dX8_init_9 : decode cX8_init 9 = .ok (.putfield 9, 3) := by decide +kernel
theorem dX8_init_12 : decode cX8_init 12 = .ok (.aload_n 0, 1) := by decide +kernel
theorem dX8_init_13 : decode cX8_init 13 = .ok (.sipush 306, 3) := by decide +kernel
theorem dX8_init_16 : decode cX8_init 16 = .ok (.newarray .int, 2) := by decide +kernel
theorem dX8_init_18 : decode cX8_init 18 = .ok (.putfield 13, 3) := by decide +kernel
theorem dX8_init_21 : decode cX8_init 21 = .ok (.aload_n 0, 1) := by decide +kernel
theorem dX8_init_22 : decode cX8_init 22 = .ok (.iconst 3, 1) := by decide +kernel
theorem dX8_init_23 : decode cX8_init 23 = .ok (.newarray .boolean, 2) := by decide +kernel
theorem dX8_init_25 : decode cX8_init 25 = .ok (.putfield 16, 3) := by decide +kernel
theorem dX8_init_28 : decode cX8_init 28 = .ok (.aload_n 0, 1) := by decide +kernel
theorem dX8_init_29 : decode cX8_init 29 = .ok (.sipush 800, 3) := by decide +kernel
theorem dX8_init_32 : decode cX8_init 32 = .ok (.newarray .byte, 2) := by decide +kernel
theorem dX8_init_34 : decode cX8_init 34 = .ok (.putfield 20, 3) := by decide +kernel
theorem dX8_init_37 : decode cX8_init 37 = .ok (.aload_n 0, 1) := by decide +kernel
theorem dX8_init_38 : decode cX8_init 38 = .ok (.iconst 5, 1) := by decide +kernel
theorem dX8_init_39 : decode cX8_init 39 = .ok (.newarray .int, 2) := by decide +kernel
theorem dX8_init_41 : decode cX8_init 41 = .ok (.putfield 24, 3) := by decide +kernel
theorem dX8_init_44 : decode cX8_init 44 = .ok (.aload_n 0, 1) := by decide +kernel
theorem dX8_init_45 : decode cX8_init 45 = .ok (.iconst (-1), 1) := by decide +kernel
theorem dX8_init_46 : decode cX8_init 46 = .ok (.putfield 27, 3) := by decide +kernel
theorem dX8_init_49 : decode cX8_init 49 = .ok (.aload_n 0, 1) := by decide +kernel
theorem dX8_init_50 : decode cX8_init 50 = .ok (.bipush 102, 2) := by decide +kernel
theorem dX8_init_52 : decode cX8_init 52 = .ok (.newarray .int, 2) := by decide +kernel
theorem dX8_init_54 : decode cX8_init 54 = .ok (.putfield 31, 3) := by decide +kernel
theorem dX8_init_57 : decode cX8_init 57 = .ok (.aload_n 0, 1) := by decide +kernel
theorem dX8_init_58 : decode cX8_init 58 = .ok (.bipush 7, 2) := by decide +kernel
theorem dX8_init_60 : decode cX8_init 60 = .ok (.newarray .int, 2) := by decide +kernel
theorem dX8_init_62 : decode cX8_init 62 = .ok (.putfield 34, 3) := by decide +kernel
theorem dX8_init_65 : decode cX8_init 65 = .ok (.aload_n 0, 1) := by decide +kernel
theorem dX8_init_66 : decode cX8_init 66 = .ok (.bipush 8, 2) := by decide +kernel
theorem dX8_init_68 : decode cX8_init 68 = .ok (.newarray .int, 2) := by decide +kernel
theorem dX8_init_70 : decode cX8_init 70 = .ok (.putfield 37, 3) := by decide +kernel
theorem dX8_init_73 : decode cX8_init 73 = .ok (.aload_n 0, 1) := by decide +kernel
theorem dX8_init_74 : decode cX8_init 74 = .ok (.bipush 7, 2) := by decide +kernel
theorem dX8_init_76 : decode cX8_init 76 = .ok (.newarray .int, 2) := by decide +kernel
theorem dX8_init_78 : decode cX8_init 78 = .ok (.putfield 40, 3) := by decide +kernel
theorem dX8_init_81 : decode cX8_init 81 = .ok (.aload_n 0, 1) := by decide +kernel
theorem dX8_init_82 : decode cX8_init 82 = .ok (.bipush 8, 2) := by decide +kernel
theorem dX8_init_84 : decode cX8_init 84 = .ok (.newarray .int, 2) := by decide +kernel
theorem dX8_init_86 : decode cX8_init 86 = .ok (.putfield 43, 3) := by decide +kernel
theorem dX8_init_89 : decode cX8_init 89 = .ok (.aload_n 0, 1) := by decide +kernel
theorem dX8_init_90 : decode cX8_init 90 = .ok (.sipush 136, 3) := by decide +kernel
theorem dX8_init_93 : decode cX8_init 93 = .ok (.newarray .int, 2) := by decide +kernel
theorem dX8_init_95 : decode cX8_init 95 = .ok (.putfield 46, 3) := by decide +kernel
theorem dX8_init_98 : decode cX8_init 98 = .ok (.aload_n 0, 1) := by decide +kernel
theorem dX8_init_99 : decode cX8_init 99 = .ok (.bipush 119, 2) := by decide +kernel
theorem dX8_init_101 : decode cX8_init 101 = .ok (.newarray .int, 2) := by decide +kernel
theorem dX8_init_103 : decode cX8_init 103 = .ok (.putfield 49, 3) := by decide +kernel
theorem dX8_init_106 : decode cX8_init 106 = .ok (.aload_n 0, 1) := by decide +kernel
theorem dX8_init_107 : decode cX8_init 107 = .ok (.bipush 16, 2) := by decide +kernel
theorem dX8_init_109 : decode cX8_init 109 = .ok (.newarray .int, 2) := by decide +kernel
theorem dX8_init_111 : decode cX8_init 111 = .ok (.putfield 52, 3) := by decide +kernel
theorem dX8_init_114 : decode cX8_init 114 = .ok (.aload_n 0, 1) := by decide +kernel
theorem dX8_init_115 : decode cX8_init 115 = .ok (.bipush 28, 2) := by decide +kernel
theorem dX8_init_117 : decode cX8_init 117 = .ok (.newarray .int, 2) := by decide +kernel
theorem dX8_init_119 : decode cX8_init 119 = .ok (.putfield 55, 3) := by decide +kernel
theorem dX8_init_122 : decode cX8_init 122 = .ok (.aload_n 0, 1) := by decide +kernel
theorem dX8_init_123 : decode cX8_init 123 = .ok (.bipush 8, 2) := by decide +kernel
theorem dX8_init_125 : decode cX8_init 125 = .ok (.newarray .int, 2) := by decide +kernel
theorem dX8_init_127 : decode cX8_init 127 = .ok (.putfield 58, 3) := by decide +kernel
theorem dX8_init_130 : decode cX8_init 130 = .ok (.aload_n 0, 1) := by decide +kernel
theorem dX8_init_131 : decode cX8_init 131 = .ok (.iconst 4, 1) := by decide +kernel
theorem dX8_init_132 : decode cX8_init 132 = .ok (.newarray .int, 2) := by decide +kernel
theorem dX8_init_134 : decode cX8_init 134 = .ok (.putfield 61, 3) := by decide +kernel
theorem dX8_init_137 : decode cX8_init 137 = .ok (.aload_n 0, 1) := by decide +kernel
theorem dX8_init_138 : decode cX8_init 138 = .ok (.iconst 4, 1) := by decide +kernel
theorem dX8_init_139 : decode cX8_init 139 = .ok (.newarray .int, 2) := by decide +kernel
theorem dX8_init_141 : decode cX8_init 141 = .ok (.putfield 64, 3) := by decide +kernel
theorem dX8_init_144 : decode cX8_init 144 = .ok (.aload_n 0, 1) := by decide +kernel
theorem dX8_init_145 : decode cX8_init 145 = .ok (.bipush 7, 2) := by decide +kernel
theorem dX8_init_147 : decode cX8_init 147 = .ok (.newarray .int, 2) := by decide +kernel
theorem dX8_init_149 : decode cX8_init 149 = .ok (.putfield 67, 3) := by decide +kernel
theorem dX8_init_152 : decode cX8_init 152 = .ok (.aload_n 0, 1) := by decide +kernel
theorem dX8_init_153 : decode cX8_init 153 = .ok (.sipush 544, 3) := by decide +kernel
theorem dX8_init_156 : decode cX8_init 156 = .ok (.newarray .int, 2) := by decide +kernel
theorem dX8_init_158 : decode cX8_init 158 = .ok (.putfield 70, 3) := by decide +kernel
theorem dX8_init_161 : decode cX8_init 161 = .ok (.aload_n 0, 1) := by decide +kernel
theorem dX8_init_162 : decode cX8_init 162 = .ok (.sipush 128, 3) := by decide +kernel
theorem dX8_init_165 : decode cX8_init 165 = .ok (.newarray .int, 2) := by decide +kernel
theorem dX8_init_167 : decode cX8_init 167 = .ok (.putfield 73, 3) := by decide +kernel
theorem dX8_init_170 : decode cX8_init 170 = .ok (.aload_n 0, 1) := by decide +kernel
theorem dX8_init_171 : decode cX8_init 171 = .ok (.iconst 4, 1) := by decide +kernel
theorem dX8_init_172 : decode cX8_init 172 = .ok (.newarray .int, 2) := by decide +kernel
theorem dX8_init_174 : decode cX8_init 174 = .ok (.dup, 1) := by decide +kernel
theorem dX8_init_175 : decode cX8_init 175 = .ok (.iconst 0, 1) := by decide +kernel
theorem dX8_init_176 : decode cX8_init 176 = .ok (.iconst (-1), 1) := by decide +kernel
theorem dX8_init_177 : decode cX8_init 177 = .ok (.iastore, 1) := by decide +kernel
theorem dX8_init_178 : decode cX8_init 178 = .ok (.dup, 1) := by decide +kernel
theorem dX8_init_179 : decode cX8_init 179 = .ok (.iconst 1, 1) := by decide +kernel
theorem dX8_init_180 : decode cX8_init 180 = .ok (.iconst (-1), 1) := by decide +kernel
theorem dX8_init_181 : decode cX8_init 181 = .ok (.iastore, 1) := by decide +kernel
theorem dX8_init_182 : decode cX8_init 182 = .ok (.dup, 1) := by decide +kernel
theorem dX8_init_183 : decode cX8_init 183 = .ok (.iconst 2, 1) := by decide +kernel
theorem dX8_init_184 : decode cX8_init 184 = .ok (.iconst (-1), 1) := by decide +kernel
theorem dX8_init_185 : decode cX8_init 185 = .ok (.iastore, 1) := by decide +kernel
theorem dX8_init_186 : decode cX8_init 186 = .ok (.dup, 1) := by decide +kernel
theorem dX8_init_187 : decode cX8_init 187 = .ok (.iconst 3, 1) := by decide +kernel
theorem dX8_init_188 : decode cX8_init 188 = .ok (.iconst (-1), 1) := by decide +kernel
theorem dX8_init_189 : decode cX8_init 189 = .ok (.iastore, 1) := by decide +kernel
theorem dX8_init_190 : decode cX8_init 190 = .ok (.putfield 76, 3) := by decide +kernel
theorem dX8_init_193 : decode cX8_init 193 = .ok (.aload_n 0, 1) := by decide +kernel
theorem dX8_init_194 : decode cX8_init 194 = .ok (.iconst 4, 1) := by decide +kernel
theorem dX8_init_195 : decode cX8_init 195 = .ok (.newarray .int, 2) := by decide +kernel
theorem dX8_init_197 : decode cX8_init 197 = .ok (.putfield 79, 3) := by decide +kernel
theorem dX8_init_200 : decode cX8_init 200 = .ok (.aload_n 0, 1) := by decide +kernel
theorem dX8_init_201 : decode cX8_init 201 = .ok (.sipush 240, 3) := by decide +kernel
theorem dX8_init_204 : decode cX8_init 204 = .ok (.newarray .long, 2) := by decide +kernel
theorem dX8_init_206 : decode cX8_init 206 = .ok (.putfield 82, 3) := by decide +kernel
theorem dX8_init_209 : decode cX8_init 209 = .ok (.aload_n 0, 1) := by decide +kernel
theorem dX8_init_210 : decode cX8_init 210 = .ok (.bipush 60, 2) := by decide +kernel
theorem dX8_init_212 : decode cX8_init 212 = .ok (.newarray .long, 2) := by decide +kernel
theorem dX8_init_214 : decode cX8_init 214 = .ok (.putfield 86, 3) := by decide +kernel
theorem dX8_init_217 : decode cX8_init 217 = .ok (.return_, 1) := by decide +kernel
theorem dX8_in_0 : decode cX8_in 0 = .ok (.lload_n 0, 1) := by decide +kernel
theorem dX8_in_1 : decode cX8_in 1 = .ok (.lload_n 2, 1) := by decide +kernel
theorem dX8_in_2 : decode cX8_in 2 = .ok (.lcmp, 1) := by decide +kernel
theorem dX8_in_3 : decode cX8_in 3 = .ok (.ifCond .lt 14, 3) := by decide +kernel
theorem dX8_in_6 : decode cX8_in 6 = .ok (.lload_n 0, 1) := by decide +kernel
theorem dX8_in_7 : decode cX8_in 7 = .ok (.lload 4, 2) := by decide +kernel
theorem dX8_in_9 : decode cX8_in 9 = .ok (.lcmp, 1) := by decide +kernel
theorem dX8_in_10 : decode cX8_in 10 = .ok (.ifCond .gt 7, 3) := by decide +kernel
theorem dX8_in_13 : decode cX8_in 13 = .ok (.iconst 1, 1) := by decide +kernel
theorem dX8_in_14 : decode cX8_in 14 = .ok (.goto 4, 3) := by decide +kernel
theorem dX8_in_17 : decode cX8_in 17 = .ok (.iconst 0, 1) := by decide +kernel
theorem dX8_in_18 : decode cX8_in 18 = .ok (.ireturn, 1) := by decide +kernel
theorem dX8_image_0 : decode cX8_image 0 = .ok (.iload_n 1, 1) := by decide +kernel
theorem dX8_image_1 : decode cX8_image 1 = .ok (.i2l, 1) := by decide +kernel
theorem dX8_image_2 : decode cX8_image 2 = .ok (.lconst 0, 1) := by decide +kernel
theorem dX8_image_3 : decode cX8_image 3 = .ok (.ldc2_w 92, 3) := by decide +kernel
theorem dX8_image_6 : decode cX8_image 6 = .ok (.invokestatic 94, 3) := by decide +kernel
theorem dX8_image_9 : decode cX8_image 9 = .ok (.ifCond .ne 6, 3) := by decide +kernel
theorem dX8_image_12 : decode cX8_image 12 = .ok (.bipush (-2), 2) := by decide +kernel
theorem dX8_image_14 : decode cX8_image 14 = .ok (.ireturn, 1) := by decide +kernel
theorem dX8_image_15 : decode cX8_image 15 = .ok (.iconst 0, 1) := by decide +kernel
theorem dX8_image_16 : decode cX8_image 16 = .ok (.istore_n 2, 1) := by decide +kernel
theorem dX8_image_17 : decode cX8_image 17 = .ok (.iload_n 2, 1) := by decide +kernel
theorem dX8_image_18 : decode cX8_image 18 = .ok (.bipush 102, 2) := by decide +kernel
theorem dX8_image_20 : decode cX8_image 20 = .ok (.if_icmp .ge 26, 3) := by decide +kernel
theorem dX8_image_23 : decode cX8_image 23 = .ok (.aload_n 0, 1) := by decide +kernel
theorem dX8_image_24 : decode cX8_image 24 = .ok (.getfield 13, 3) := by decide +kernel
theorem dX8_image_27 : decode cX8_image 27 = .ok (.bipush 102, 2) := by decide +kernel
theorem dX8_image_29 : decode cX8_image 29 = .ok (.iload_n 1, 1) := by decide +kernel
theorem dX8_image_30 : decode cX8_image 30 = .ok (.imul, 1) := by decide +kernel
theorem dX8_image_31 : decode cX8_image 31 = .ok (.iload_n 2, 1) := by decide +kernel
theorem dX8_image_32 : decode cX8_image 32 = .ok (.iadd, 1) := by decide +kernel
theorem dX8_image_33 : decode cX8_image 33 = .ok (.aload_n 0, 1) := by decide +kernel
theorem dX8_image_34 : decode cX8_image 34 = .ok (.getfield 9, 3) := by decide +kernel
theorem dX8_image_37 : decode cX8_image 37 = .ok (.iload_n 2, 1) := by decide +kernel
theorem dX8_image_38 : decode cX8_image 38 = .ok (.iaload, 1) := by decide +kernel
theorem dX8_image_39 : decode cX8_image 39 = .ok (.iastore, 1) := by decide +kernel
theorem dX8_image_40 : decode cX8_image 40 = .ok (.iinc 2 1, 3) := by decide +kernel
theorem dX8_image_43 : decode cX8_image 43 = .ok (.goto (-26), 3) := by decide +kernel
theorem dX8_image_46 : decode cX8_image 46 = .ok (.aload_n 0, 1) := by decide +kernel
theorem dX8_image_47 : decode cX8_image 47 = .ok (.getfield 16, 3) := by decide +kernel
theorem dX8_image_50 : decode cX8_image 50 = .ok (.iload_n 1, 1) := by decide +kernel
theorem dX8_image_51 : decode cX8_image 51 = .ok (.iconst 1, 1) := by decide +kernel
theorem dX8_image_52 : decode cX8_image 52 = .ok (.bastore, 1) := by decide +kernel
theorem dX8_image_53 : decode cX8_image 53 = .ok (.iconst 0, 1) := by decide +kernel
theorem dX8_image_54 : decode cX8_image 54 = .ok (.ireturn, 1) := by decide +kernel
theorem dX8_back_0 : decode cX8_back 0 = .ok (.iload_n 1, 1) := by decide +kernel
theorem dX8_back_1 : decode cX8_back 1 = .ok (.i2l, 1) := by decide +kernel
theorem dX8_back_2 : decode cX8_back 2 = .ok (.lconst 0, 1) := by decide +kernel
theorem dX8_back_3 : decode cX8_back 3 = .ok (.ldc2_w 92, 3) := by decide +kernel
theorem dX8_back_6 : decode cX8_back 6 = .ok (.invokestatic 94, 3) := by decide +kernel
theorem dX8_back_9 : decode cX8_back 9 = .ok (.ifCond .ne 6, 3) := by decide +kernel
theorem dX8_back_12 : decode cX8_back 12 = .ok (.bipush (-2), 2) := by decide +kernel
theorem dX8_back_14 : decode cX8_back 14 = .ok (.ireturn, 1) := by decide +kernel
theorem dX8_back_15 : decode cX8_back 15 = .ok (.aload_n 0, 1) := by decide +kernel
theorem dX8_back_16 : decode cX8_back 16 = .ok (.getfield 16, 3) := by decide +kernel
theorem dX8_back_19 : decode cX8_back 19 = .ok (.iload_n 1, 1) := by decide +kernel
theorem dX8_back_20 : decode cX8_back 20 = .ok (.baload, 1) := by decide +kernel
theorem dX8_back_21 : decode cX8_back 21 = .ok (.ifCond .ne 6, 3) := by decide +kernel
theorem dX8_back_24 : decode cX8_back 24 = .ok (.bipush (-6), 2) := by decide +kernel
theorem dX8_back_26 : decode cX8_back 26 = .ok (.ireturn, 1) := by decide +kernel
theorem dX8_isHeath_0 : decode cX8_isHeath 0 = .ok (.aload_n 0, 1) := by decide +kernel
theorem dX8_isHeath_1 : decode cX8_isHeath 1 = .ok (.getfield 9, 3) := by decide +kernel
theorem dX8_isHeath_4 : decode cX8_isHeath 4 = .ok (.bipush 9, 2) := by decide +kernel
theorem dX8_isHeath_6 : decode cX8_isHeath 6 = .ok (.iaload, 1) := by decide +kernel
theorem dX8_isHeath_7 : decode cX8_isHeath 7 = .ok (.ifCond .le 7, 3) := by decide +kernel
theorem dX8_isHeath_14 : decode cX8_isHeath 14 = .ok (.iconst 0, 1) := by decide +kernel
theorem dX8_isHeath_15 : decode cX8_isHeath 15 = .ok (.ireturn, 1) := by decide +kernel
theorem dX8_hours_0 : decode cX8_hours 0 = .ok (.aload_n 0, 1) := by decide +kernel
theorem dX8_hours_1 : decode cX8_hours 1 = .ok (.getfield 9, 3) := by decide +kernel
theorem dX8_hours_4 : decode cX8_hours 4 = .ok (.iconst 0, 1) := by decide +kernel
theorem dX8_hours_5 : decode cX8_hours 5 = .ok (.iaload, 1) := by decide +kernel
theorem dX8_hours_6 : decode cX8_hours 6 = .ok (.ireturn, 1) := by decide +kernel
theorem dX8_posts_0 : decode cX8_posts 0 = .ok (.aload_n 0, 1) := by decide +kernel
theorem dX8_posts_1 : decode cX8_posts 1 = .ok (.getfield 9, 3) := by decide +kernel
theorem dX8_posts_4 : decode cX8_posts 4 = .ok (.iconst 4, 1) := by decide +kernel
theorem dX8_posts_5 : decode cX8_posts 5 = .ok (.iaload, 1) := by decide +kernel
theorem dX8_posts_6 : decode cX8_posts 6 = .ok (.ireturn, 1) := by decide +kernel
theorem dX8_walkers_0 : decode cX8_walkers 0 = .ok (.aload_n 0, 1) := by decide +kernel
theorem dX8_walkers_1 : decode cX8_walkers 1 = .ok (.getfield 9, 3) := by decide +kernel
theorem dX8_walkers_4 : decode cX8_walkers 4 = .ok (.bipush 7, 2) := by decide +kernel
theorem dX8_walkers_6 : decode cX8_walkers 6 = .ok (.iaload, 1) := by decide +kernel
theorem dX8_walkers_7 : decode cX8_walkers 7 = .ok (.ireturn, 1) := by decide +kernel
theorem dX8_isHour_0 : decode cX8_isHour 0 = .ok (.aload_n 0, 1) := by decide +kernel
theorem dX8_isHour_1 : decode cX8_isHour 1 = .ok (.invokevirtual 102, 3) := by decide +kernel
theorem dX8_isHour_4 : decode cX8_isHour 4 = .ok (.ifCond .eq 20, 3) := by decide +kernel
theorem dX8_isHour_24 : decode cX8_isHour 24 = .ok (.iconst 0, 1) := by decide +kernel
theorem dX8_isHour_25 : decode cX8_isHour 25 = .ok (.ireturn, 1) := by decide +kernel
theorem dX8_isAhead_0 : decode cX8_isAhead 0 = .ok (.aload_n 0, 1) := by decide +kernel
theorem dX8_isAhead_1 : decode cX8_isAhead 1 = .ok (.invokevirtual 102, 3) := by decide +kernel
theorem dX8_isAhead_4 : decode cX8_isAhead 4 = .ok (.ifCond .eq 22, 3) := by decide +kernel
theorem dX8_isAhead_26 : decode cX8_isAhead 26 = .ok (.iconst 0, 1) := by decide +kernel
theorem dX8_isAhead_27 : decode cX8_isAhead 27 = .ok (.ireturn, 1) := by decide +kernel
theorem dX8_isPost_0 : decode cX8_isPost 0 = .ok (.lload_n 1, 1) := by decide +kernel
theorem dX8_isPost_1 : decode cX8_isPost 1 = .ok (.lconst 0, 1) := by decide +kernel
theorem dX8_isPost_2 : decode cX8_isPost 2 = .ok (.aload_n 0, 1) := by decide +kernel
theorem dX8_isPost_3 : decode cX8_isPost 3 = .ok (.invokevirtual 98, 3) := by decide +kernel
theorem dX8_isPost_6 : decode cX8_isPost 6 = .ok (.iconst 1, 1) := by decide +kernel
theorem dX8_isPost_7 : decode cX8_isPost 7 = .ok (.isub, 1) := by decide +kernel
theorem dX8_isPost_8 : decode cX8_isPost 8 = .ok (.i2l, 1) := by decide +kernel
theorem dX8_isPost_9 : decode cX8_isPost 9 = .ok (.invokestatic 94, 3) := by decide +kernel
theorem dX8_isPost_12 : decode cX8_isPost 12 = .ok (.ireturn, 1) := by decide +kernel
theorem dX8_isInn_0 : decode cX8_isInn 0 = .ok (.lload_n 1, 1) := by decide +kernel
theorem dX8_isInn_1 : decode cX8_isInn 1 = .ok (.lconst 0, 1) := by decide +kernel
theorem dX8_isInn_2 : decode cX8_isInn 2 = .ok (.aload_n 0, 1) := by decide +kernel
theorem dX8_isInn_3 : decode cX8_isInn 3 = .ok (.getfield 9, 3) := by decide +kernel
theorem dX8_isInn_6 : decode cX8_isInn 6 = .ok (.iconst 3, 1) := by decide +kernel
theorem dX8_isInn_7 : decode cX8_isInn 7 = .ok (.iaload, 1) := by decide +kernel
theorem dX8_isInn_8 : decode cX8_isInn 8 = .ok (.iconst 1, 1) := by decide +kernel
theorem dX8_isInn_9 : decode cX8_isInn 9 = .ok (.isub, 1) := by decide +kernel
theorem dX8_isInn_10 : decode cX8_isInn 10 = .ok (.i2l, 1) := by decide +kernel
theorem dX8_isInn_11 : decode cX8_isInn 11 = .ok (.invokestatic 94, 3) := by decide +kernel
theorem dX8_isInn_14 : decode cX8_isInn 14 = .ok (.ireturn, 1) := by decide +kernel
theorem dX8_isWalker_0 : decode cX8_isWalker 0 = .ok (.lload_n 1, 1) := by decide +kernel
theorem dX8_isWalker_1 : decode cX8_isWalker 1 = .ok (.lconst 0, 1) := by decide +kernel
theorem dX8_isWalker_2 : decode cX8_isWalker 2 = .ok (.aload_n 0, 1) := by decide +kernel
theorem dX8_isWalker_3 : decode cX8_isWalker 3 = .ok (.invokevirtual 109, 3) := by decide +kernel
theorem dX8_isWalker_6 : decode cX8_isWalker 6 = .ok (.iconst 1, 1) := by decide +kernel
theorem dX8_isWalker_7 : decode cX8_isWalker 7 = .ok (.isub, 1) := by decide +kernel
theorem dX8_isWalker_8 : decode cX8_isWalker 8 = .ok (.i2l, 1) := by decide +kernel
theorem dX8_isWalker_9 : decode cX8_isWalker 9 = .ok (.invokestatic 94, 3) := by decide +kernel
theorem dX8_isWalker_12 : decode cX8_isWalker 12 = .ok (.ireturn, 1) := by decide +kernel
theorem dX8_armOf_0 : decode cX8_armOf 0 = .ok (.aload_n 0, 1) := by decide +kernel
theorem dX8_armOf_1 : decode cX8_armOf 1 = .ok (.getfield 9, 3) := by decide +kernel
theorem dX8_armOf_4 : decode cX8_armOf 4 = .ok (.bipush 14, 2) := by decide +kernel
theorem dX8_armOf_6 : decode cX8_armOf 6 = .ok (.bipush 6, 2) := by decide +kernel
theorem dX8_armOf_8 : decode cX8_armOf 8 = .ok (.iload_n 1, 1) := by decide +kernel
theorem dX8_armOf_9 : decode cX8_armOf 9 = .ok (.imul, 1) := by decide +kernel
theorem dX8_armOf_10 : decode cX8_armOf 10 = .ok (.iadd, 1) := by decide +kernel
theorem dX8_armOf_11 : decode cX8_armOf 11 = .ok (.iconst 1, 1) := by decide +kernel
theorem dX8_armOf_12 : decode cX8_armOf 12 = .ok (.iadd, 1) := by decide +kernel
theorem dX8_armOf_13 : decode cX8_armOf 13 = .ok (.iconst 4, 1) := by decide +kernel
theorem dX8_armOf_14 : decode cX8_armOf 14 = .ok (.iadd, 1) := by decide +kernel
theorem dX8_armOf_15 : decode cX8_armOf 15 = .ok (.iaload, 1) := by decide +kernel
theorem dX8_armOf_16 : decode cX8_armOf 16 = .ok (.ireturn, 1) := by decide +kernel
theorem dX8_feed_0 : decode cX8_feed 0 = .ok (.aload_n 0, 1) := by decide +kernel
theorem dX8_feed_1 : decode cX8_feed 1 = .ok (.getfield 121, 3) := by decide +kernel
theorem dX8_feed_4 : decode cX8_feed 4 = .ok (.bipush 20, 2) := by decide +kernel
theorem dX8_feed_6 : decode cX8_feed 6 = .ok (.iadd, 1) := by decide +kernel
theorem dX8_feed_7 : decode cX8_feed 7 = .ok (.sipush 800, 3) := by decide +kernel
theorem dX8_feed_10 : decode cX8_feed 10 = .ok (.if_icmp .le 5, 3) := by decide +kernel
theorem dX8_feed_15 : decode cX8_feed 15 = .ok (.aload_n 0, 1) := by decide +kernel
theorem dX8_feed_16 : decode cX8_feed 16 = .ok (.getfield 24, 3) := by decide +kernel
theorem dX8_feed_19 : decode cX8_feed 19 = .ok (.iconst 0, 1) := by decide +kernel
theorem dX8_feed_20 : decode cX8_feed 20 = .ok (.iload_n 1, 1) := by decide +kernel
theorem dX8_feed_21 : decode cX8_feed 21 = .ok (.iastore, 1) := by decide +kernel
theorem dX8_feed_22 : decode cX8_feed 22 = .ok (.aload_n 0, 1) := by decide +kernel
theorem dX8_feed_23 : decode cX8_feed 23 = .ok (.getfield 24, 3) := by decide +kernel
theorem dX8_feed_26 : decode cX8_feed 26 = .ok (.iconst 1, 1) := by decide +kernel
theorem dX8_feed_27 : decode cX8_feed 27 = .ok (.iload_n 2, 1) := by decide +kernel
theorem dX8_feed_28 : decode cX8_feed 28 = .ok (.iastore, 1) := by decide +kernel
theorem dX8_feed_29 : decode cX8_feed 29 = .ok (.aload_n 0, 1) := by decide +kernel
theorem dX8_feed_30 : decode cX8_feed 30 = .ok (.getfield 24, 3) := by decide +kernel
theorem dX8_feed_33 : decode cX8_feed 33 = .ok (.iconst 2, 1) := by decide +kernel
theorem dX8_feed_34 : decode cX8_feed 34 = .ok (.iload_n 3, 1) := by decide +kernel
theorem dX8_feed_35 : decode cX8_feed 35 = .ok (.iastore, 1) := by decide +kernel
theorem dX8_feed_36 : decode cX8_feed 36 = .ok (.aload_n 0, 1) := by decide +kernel
theorem dX8_feed_37 : decode cX8_feed 37 = .ok (.getfield 24, 3) := by decide +kernel
theorem dX8_feed_40 : decode cX8_feed 40 = .ok (.iconst 3, 1) := by decide +kernel
theorem dX8_feed_41 : decode cX8_feed 41 = .ok (.iload 4, 2) := by decide +kernel
theorem dX8_feed_43 : decode cX8_feed 43 = .ok (.iastore, 1) := by decide +kernel
theorem dX8_feed_44 : decode cX8_feed 44 = .ok (.aload_n 0, 1) := by decide +kernel
theorem dX8_feed_45 : decode cX8_feed 45 = .ok (.getfield 24, 3) := by decide +kernel
theorem dX8_feed_48 : decode cX8_feed 48 = .ok (.iconst 4, 1) := by decide +kernel
theorem dX8_feed_49 : decode cX8_feed 49 = .ok (.iload 5, 2) := by decide +kernel
theorem dX8_feed_51 : decode cX8_feed 51 = .ok (.iastore, 1) := by decide +kernel
theorem dX8_feed_52 : decode cX8_feed 52 = .ok (.iconst 0, 1) := by decide +kernel
theorem dX8_feed_53 : decode cX8_feed 53 = .ok (.istore 6, 2) := by decide +kernel
theorem dX8_feed_55 : decode cX8_feed 55 = .ok (.iload 6, 2) := by decide +kernel
theorem dX8_feed_57 : decode cX8_feed 57 = .ok (.bipush 20, 2) := by decide +kernel
theorem dX8_feed_59 : decode cX8_feed 59 = .ok (.if_icmp .ge 42, 3) := by decide +kernel
theorem dX8_feed_62 : decode cX8_feed 62 = .ok (.aload_n 0, 1) := by decide +kernel
theorem dX8_feed_63 : decode cX8_feed 63 = .ok (.getfield 20, 3) := by decide +kernel
theorem dX8_feed_66 : decode cX8_feed 66 = .ok (.aload_n 0, 1) := by decide +kernel
theorem dX8_feed_67 : decode cX8_feed 67 = .ok (.getfield 121, 3) := by decide +kernel
theorem dX8_feed_70 : decode cX8_feed 70 = .ok (.iload 6, 2) := by decide +kernel
theorem dX8_feed_72 : decode cX8_feed 72 = .ok (.iadd, 1) := by decide +kernel
theorem dX8_feed_73 : decode cX8_feed 73 = .ok (.aload_n 0, 1) := by decide +kernel
theorem dX8_feed_74 : decode cX8_feed 74 = .ok (.getfield 24, 3) := by decide +kernel
theorem dX8_feed_77 : decode cX8_feed 77 = .ok (.iload 6, 2) := by decide +kernel
theorem dX8_feed_79 : decode cX8_feed 79 = .ok (.iconst 4, 1) := by decide +kernel
theorem dX8_feed_80 : decode cX8_feed 80 = .ok (.idiv, 1) := by decide +kernel
theorem dX8_feed_81 : decode cX8_feed 81 = .ok (.iaload, 1) := by decide +kernel
theorem dX8_feed_82 : decode cX8_feed 82 = .ok (.bipush 24, 2) := by decide +kernel
theorem dX8_feed_84 : decode cX8_feed 84 = .ok (.bipush 8, 2) := by decide +kernel
theorem dX8_feed_86 : decode cX8_feed 86 = .ok (.iload 6, 2) := by decide +kernel
theorem dX8_feed_88 : decode cX8_feed 88 = .ok (.iconst 4, 1) := by decide +kernel
theorem dX8_feed_89 : decode cX8_feed 89 = .ok (.irem, 1) := by decide +kernel
theorem dX8_feed_90 : decode cX8_feed 90 = .ok (.imul, 1) := by decide +kernel
theorem dX8_feed_91 : decode cX8_feed 91 = .ok (.isub, 1) := by decide +kernel
theorem dX8_feed_92 : decode cX8_feed 92 = .ok (.ishr, 1) := by decide +kernel
theorem dX8_feed_93 : decode cX8_feed 93 = .ok (.i2b, 1) := by decide +kernel
theorem dX8_feed_94 : decode cX8_feed 94 = .ok (.bastore, 1) := by decide +kernel
theorem dX8_feed_95 : decode cX8_feed 95 = .ok (.iinc 6 1, 3) := by decide +kernel
theorem dX8_feed_98 : decode cX8_feed 98 = .ok (.goto (-43), 3) := by decide +kernel
theorem dX8_feed_101 : decode cX8_feed 101 = .ok (.aload_n 0, 1) := by decide +kernel
theorem dX8_feed_102 : decode cX8_feed 102 = .ok (.dup, 1) := by decide +kernel
theorem dX8_feed_103 : decode cX8_feed 103 = .ok (.getfield 121, 3) := by decide +kernel
theorem dX8_feed_106 : decode cX8_feed 106 = .ok (.bipush 20, 2) := by decide +kernel
theorem dX8_feed_108 : decode cX8_feed 108 = .ok (.iadd, 1) := by decide +kernel
theorem dX8_feed_109 : decode cX8_feed 109 = .ok (.putfield 121, 3) := by decide +kernel
theorem dX8_feed_112 : decode cX8_feed 112 = .ok (.aload_n 0, 1) := by decide +kernel
theorem dX8_feed_113 : decode cX8_feed 113 = .ok (.getfield 121, 3) := by decide +kernel
theorem dX8_feed_116 : decode cX8_feed 116 = .ok (.ireturn, 1) := by decide +kernel
theorem dX8_end_0 : decode cX8_end 0 = .ok (.iload_n 1, 1) := by decide +kernel
theorem dX8_end_1 : decode cX8_end 1 = .ok (.i2l, 1) := by decide +kernel
theorem dX8_end_2 : decode cX8_end 2 = .ok (.lconst 0, 1) := by decide +kernel
theorem dX8_end_3 : decode cX8_end 3 = .ok (.aload_n 0, 1) := by decide +kernel
theorem dX8_end_4 : decode cX8_end 4 = .ok (.getfield 121, 3) := by decide +kernel
theorem dX8_end_7 : decode cX8_end 7 = .ok (.i2l, 1) := by decide +kernel
theorem dX8_end_8 : decode cX8_end 8 = .ok (.invokestatic 94, 3) := by decide +kernel
theorem dX8_end_11 : decode cX8_end 11 = .ok (.ifCond .ne 5, 3) := by decide +kernel
theorem dX8_end_14 : decode cX8_end 14 = .ok (.iconst (-1), 1) := by decide +kernel
theorem dX8_end_15 : decode cX8_end 15 = .ok (.ireturn, 1) := by decide +kernel
theorem dX8_end_16 : decode cX8_end 16 = .ok (.aload_n 0, 1) := by decide +kernel
theorem dX8_end_17 : decode cX8_end 17 = .ok (.iload_n 1, 1) := by decide +kernel
theorem dX8_end_18 : decode cX8_end 18 = .ok (.putfield 121, 3) := by decide +kernel
theorem dX8_end_21 : decode cX8_end 21 = .ok (.iload_n 1, 1) := by decide +kernel
theorem dX8_end_22 : decode cX8_end 22 = .ok (.ireturn, 1) := by decide +kernel
theorem dX8_see_0 : decode cX8_see 0 = .ok (.iload_n 1, 1) := by decide +kernel
theorem dX8_see_1 : decode cX8_see 1 = .ok (.aload_n 0, 1) := by decide +kernel
theorem dX8_see_2 : decode cX8_see 2 = .ok (.getfield 124, 3) := by decide +kernel
theorem dX8_see_5 : decode cX8_see 5 = .ok (.if_icmp .ge 16, 3) := by decide +kernel
theorem dX8_see_21 : decode cX8_see 21 = .ok (.iconst (-1), 1) := by decide +kernel
theorem dX8_see_22 : decode cX8_see 22 = .ok (.ireturn, 1) := by decide +kernel
theorem dX8_advance_0 : decode cX8_advance 0 = .ok (.aload_n 0, 1) := by decide +kernel
theorem dX8_advance_1 : decode cX8_advance 1 = .ok (.aload_n 0, 1) := by decide +kernel
theorem dX8_advance_2 : decode cX8_advance 2 = .ok (.getfield 127, 3) := by decide +kernel
theorem dX8_advance_5 : decode cX8_advance 5 = .ok (.invokevirtual 130, 3) := by decide +kernel
theorem dX8_advance_8 : decode cX8_advance 8 = .ok (.bipush 32, 2) := by decide +kernel
theorem dX8_advance_10 : decode cX8_advance 10 = .ok (.if_icmp .eq 16, 3) := by decide +kernel
theorem dX8_advance_13 : decode cX8_advance 13 = .ok (.aload_n 0, 1) := by decide +kernel
theorem dX8_advance_14 : decode cX8_advance 14 = .ok (.aload_n 0, 1) := by decide +kernel
theorem dX8_advance_15 : decode cX8_advance 15 = .ok (.getfield 127, 3) := by decide +kernel
theorem dX8_advance_18 : decode cX8_advance 18 = .ok (.invokevirtual 130, 3) := by decide +kernel
theorem dX8_advance_21 : decode cX8_advance 21 = .ok (.bipush 10, 2) := by decide +kernel
theorem dX8_advance_23 : decode cX8_advance 23 = .ok (.if_icmp .ne 16, 3) := by decide +kernel
theorem dX8_advance_39 : decode cX8_advance 39 = .ok (.aload_n 0, 1) := by decide +kernel
theorem dX8_advance_40 : decode cX8_advance 40 = .ok (.aload_n 0, 1) := by decide +kernel
theorem dX8_advance_41 : decode cX8_advance 41 = .ok (.getfield 127, 3) := by decide +kernel
theorem dX8_advance_44 : decode cX8_advance 44 = .ok (.putfield 134, 3) := by decide +kernel
theorem dX8_advance_47 : decode cX8_advance 47 = .ok (.aload_n 0, 1) := by decide +kernel
theorem dX8_advance_48 : decode cX8_advance 48 = .ok (.aload_n 0, 1) := by decide +kernel
theorem dX8_advance_49 : decode cX8_advance 49 = .ok (.getfield 127, 3) := by decide +kernel
theorem dX8_advance_52 : decode cX8_advance 52 = .ok (.invokevirtual 130, 3) := by decide +kernel
theorem dX8_advance_55 : decode cX8_advance 55 = .ok (.istore_n 1, 1) := by decide +kernel
theorem dX8_advance_56 : decode cX8_advance 56 = .ok (.iload_n 1, 1) := by decide +kernel
theorem dX8_advance_57 : decode cX8_advance 57 = .ok (.iconst (-1), 1) := by decide +kernel
theorem dX8_advance_58 : decode cX8_advance 58 = .ok (.if_icmp .ne 11, 3) := by decide +kernel
theorem dX8_advance_61 : decode cX8_advance 61 = .ok (.aload_n 0, 1) := by decide +kernel
theorem dX8_advance_62 : decode cX8_advance 62 = .ok (.iconst 0, 1) := by decide +kernel
theorem dX8_advance_63 : decode cX8_advance 63 = .ok (.putfield 137, 3) := by decide +kernel
theorem dX8_advance_66 : decode cX8_advance 66 = .ok (.goto 173, 3) := by decide +kernel
theorem dX8_advance_239 : decode cX8_advance 239 = .ok (.return_, 1) := by decide +kernel
theorem dX8_good_0 : decode cX8_good 0 = .ok (.aload_n 0, 1) := by decide +kernel
theorem dX8_good_1 : decode cX8_good 1 = .ok (.getfield 158, 3) := by decide +kernel
theorem dX8_good_4 : decode cX8_good 4 = .ok (.ifCond .ne 7, 3) := by decide +kernel
theorem dX8_good_7 : decode cX8_good 7 = .ok (.iconst 1, 1) := by decide +kernel
theorem dX8_good_8 : decode cX8_good 8 = .ok (.goto 4, 3) := by decide +kernel
theorem dX8_good_12 : decode cX8_good 12 = .ok (.ireturn, 1) := by decide +kernel
theorem dX8_fault_0 : decode cX8_fault 0 = .ok (.iload_n 1, 1) := by decide +kernel
theorem dX8_fault_1 : decode cX8_fault 1 = .ok (.ifCond .ne 10, 3) := by decide +kernel
theorem dX8_fault_4 : decode cX8_fault 4 = .ok (.aload_n 0, 1) := by decide +kernel
theorem dX8_fault_5 : decode cX8_fault 5 = .ok (.getfield 158, 3) := by decide +kernel
theorem dX8_fault_8 : decode cX8_fault 8 = .ok (.goto 16, 3) := by decide +kernel
theorem dX8_fault_11 : decode cX8_fault 11 = .ok (.iload_n 1, 1) := by decide +kernel
theorem dX8_fault_12 : decode cX8_fault 12 = .ok (.iconst 1, 1) := by decide +kernel
theorem dX8_fault_13 : decode cX8_fault 13 = .ok (.if_icmp .ne 10, 3) := by decide +kernel
theorem dX8_fault_16 : decode cX8_fault 16 = .ok (.aload_n 0, 1) := by decide +kernel
theorem dX8_fault_17 : decode cX8_fault 17 = .ok (.getfield 27, 3) := by decide +kernel
theorem dX8_fault_20 : decode cX8_fault 20 = .ok (.goto 4, 3) := by decide +kernel
theorem dX8_fault_23 : decode cX8_fault 23 = .ok (.iconst (-1), 1) := by decide +kernel
theorem dX8_fault_24 : decode cX8_fault 24 = .ok (.ireturn, 1) := by decide +kernel
theorem dX8_heath_0 : decode cX8_heath 0 = .ok (.aload_n 0, 1) := by decide +kernel
theorem dX8_heath_1 : decode cX8_heath 1 = .ok (.aload_n 0, 1) := by decide +kernel
theorem dX8_heath_2 : decode cX8_heath 2 = .ok (.getfield 121, 3) := by decide +kernel
theorem dX8_heath_5 : decode cX8_heath 5 = .ok (.putfield 124, 3) := by decide +kernel
theorem dX8_heath_8 : decode cX8_heath 8 = .ok (.aload_n 0, 1) := by decide +kernel
theorem dX8_heath_9 : decode cX8_heath 9 = .ok (.iconst 0, 1) := by decide +kernel
theorem dX8_heath_10 : decode cX8_heath 10 = .ok (.putfield 121, 3) := by decide +kernel
theorem dX8_heath_13 : decode cX8_heath 13 = .ok (.aload_n 0, 1) := by decide +kernel
theorem dX8_heath_14 : decode cX8_heath 14 = .ok (.iconst 0, 1) := by decide +kernel
theorem dX8_heath_15 : decode cX8_heath 15 = .ok (.putfield 127, 3) := by decide +kernel
theorem dX8_heath_18 : decode cX8_heath 18 = .ok (.aload_n 0, 1) := by decide +kernel
theorem dX8_heath_19 : decode cX8_heath 19 = .ok (.iconst 0, 1) := by decide +kernel
theorem dX8_heath_20 : decode cX8_heath 20 = .ok (.putfield 158, 3) := by decide +kernel
theorem dX8_heath_23 : decode cX8_heath 23 = .ok (.aload_n 0, 1) := by decide +kernel
theorem dX8_heath_24 : decode cX8_heath 24 = .ok (.iconst (-1), 1) := by decide +kernel
theorem dX8_heath_25 : decode cX8_heath 25 = .ok (.putfield 27, 3) := by decide +kernel
theorem dX8_heath_28 : decode cX8_heath 28 = .ok (.iconst 0, 1) := by decide +kernel
theorem dX8_heath_29 : decode cX8_heath 29 = .ok (.istore_n 1, 1) := by decide +kernel
theorem dX8_heath_30 : decode cX8_heath 30 = .ok (.iload_n 1, 1) := by decide +kernel
theorem dX8_heath_31 : decode cX8_heath 31 = .ok (.bipush 102, 2) := by decide +kernel
theorem dX8_heath_33 : decode cX8_heath 33 = .ok (.if_icmp .ge 16, 3) := by decide +kernel
theorem dX8_heath_36 : decode cX8_heath 36 = .ok (.aload_n 0, 1) := by decide +kernel
theorem dX8_heath_37 : decode cX8_heath 37 = .ok (.getfield 31, 3) := by decide +kernel
theorem dX8_heath_40 : decode cX8_heath 40 = .ok (.iload_n 1, 1) := by decide +kernel
theorem dX8_heath_41 : decode cX8_heath 41 = .ok (.iconst 0, 1) := by decide +kernel
theorem dX8_heath_42 : decode cX8_heath 42 = .ok (.iastore, 1) := by decide +kernel
theorem dX8_heath_43 : decode cX8_heath 43 = .ok (.iinc 1 1, 3) := by decide +kernel
theorem dX8_heath_46 : decode cX8_heath 46 = .ok (.goto (-16), 3) := by decide +kernel
theorem dX8_heath_49 : decode cX8_heath 49 = .ok (.aload_n 0, 1) := by decide +kernel
theorem dX8_heath_50 : decode cX8_heath 50 = .ok (.invokevirtual 177, 3) := by decide +kernel
theorem dX8_heath_53 : decode cX8_heath 53 = .ok (.aload_n 0, 1) := by decide +kernel
theorem dX8_heath_54 : decode cX8_heath 54 = .ok (.invokevirtual 161, 3) := by decide +kernel
theorem dX8_heath_57 : decode cX8_heath 57 = .ok (.ifCond .eq 17, 3) := by decide +kernel
theorem dX8_heath_60 : decode cX8_heath 60 = .ok (.aload_n 0, 1) := by decide +kernel
theorem dX8_heath_61 : decode cX8_heath 61 = .ok (.getfield 137, 3) := by decide +kernel
theorem dX8_heath_64 : decode cX8_heath 64 = .ok (.ifCond .eq 10, 3) := by decide +kernel
theorem dX8_heath_74 : decode cX8_heath 74 = .ok (.aload_n 0, 1) := by decide +kernel
theorem dX8_heath_75 : decode cX8_heath 75 = .ok (.invokevirtual 161, 3) := by decide +kernel
theorem dX8_heath_78 : decode cX8_heath 78 = .ok (.ifCond .ne 6, 3) := by decide +kernel
theorem dX8_heath_84 : decode cX8_heath 84 = .ok (.iconst 0, 1) := by decide +kernel
theorem dX8_heath_85 : decode cX8_heath 85 = .ok (.istore_n 1, 1) := by decide +kernel
theorem dX8_heath_86 : decode cX8_heath 86 = .ok (.iload_n 1, 1) := by decide +kernel
theorem dX8_heath_87 : decode cX8_heath 87 = .ok (.bipush 102, 2) := by decide +kernel
theorem dX8_heath_89 : decode cX8_heath 89 = .ok (.if_icmp .ge 21, 3) := by decide +kernel
theorem dX8_heath_92 : decode cX8_heath 92 = .ok (.aload_n 0, 1) := by decide +kernel
theorem dX8_heath_93 : decode cX8_heath 93 = .ok (.getfield 9, 3) := by decide +kernel
theorem dX8_heath_96 : decode cX8_heath 96 = .ok (.iload_n 1, 1) := by decide +kernel
theorem dX8_heath_97 : decode cX8_heath 97 = .ok (.aload_n 0, 1) := by decide +kernel
theorem dX8_heath_98 : decode cX8_heath 98 = .ok (.getfield 31, 3) := by decide +kernel
theorem dX8_heath_101 : decode cX8_heath 101 = .ok (.iload_n 1, 1) := by decide +kernel
theorem dX8_heath_102 : decode cX8_heath 102 = .ok (.iaload, 1) := by decide +kernel
theorem dX8_heath_103 : decode cX8_heath 103 = .ok (.iastore, 1) := by decide +kernel
theorem dX8_heath_104 : decode cX8_heath 104 = .ok (.iinc 1 1, 3) := by decide +kernel
theorem dX8_heath_107 : decode cX8_heath 107 = .ok (.goto (-21), 3) := by decide +kernel
theorem dX8_heath_110 : decode cX8_heath 110 = .ok (.aload_n 0, 1) := by decide +kernel
theorem dX8_heath_111 : decode cX8_heath 111 = .ok (.getfield 9, 3) := by decide +kernel
theorem dX8_heath_114 : decode cX8_heath 114 = .ok (.bipush 9, 2) := by decide +kernel
theorem dX8_heath_116 : decode cX8_heath 116 = .ok (.iaload, 1) := by decide +kernel
theorem dX8_heath_117 : decode cX8_heath 117 = .ok (.ireturn, 1) := by decide +kernel
theorem dX8_room_0 : decode cX8_room 0 = .ok (.aload_n 0, 1) := by decide +kernel
theorem dX8_room_1 : decode cX8_room 1 = .ok (.iload_n 1, 1) := by decide +kernel
theorem dX8_room_2 : decode cX8_room 2 = .ok (.i2l, 1) := by decide +kernel
theorem dX8_room_3 : decode cX8_room 3 = .ok (.invokevirtual 118, 3) := by decide +kernel
theorem dX8_room_6 : decode cX8_room 6 = .ok (.ifCond .eq 15, 3) := by decide +kernel
theorem dX8_room_21 : decode cX8_room 21 = .ok (.bipush (-2), 2) := by decide +kernel
theorem dX8_room_23 : decode cX8_room 23 = .ok (.ireturn, 1) := by decide +kernel
theorem dX8_roads_0 : decode cX8_roads 0 = .ok (.aload_n 0, 1) := by decide +kernel
theorem dX8_roads_1 : decode cX8_roads 1 = .ok (.iload_n 1, 1) := by decide +kernel
theorem dX8_roads_2 : decode cX8_roads 2 = .ok (.i2l, 1) := by decide +kernel
theorem dX8_roads_3 : decode cX8_roads 3 = .ok (.invokevirtual 112, 3) := by decide +kernel
theorem dX8_roads_6 : decode cX8_roads 6 = .ok (.ifCond .eq 11, 3) := by decide +kernel
theorem dX8_roads_17 : decode cX8_roads 17 = .ok (.bipush (-2), 2) := by decide +kernel
theorem dX8_roads_19 : decode cX8_roads 19 = .ok (.ireturn, 1) := by decide +kernel
theorem dX8_goes_0 : decode cX8_goes 0 = .ok (.aload_n 0, 1) := by decide +kernel
theorem dX8_goes_1 : decode cX8_goes 1 = .ok (.iload_n 1, 1) := by decide +kernel
theorem dX8_goes_2 : decode cX8_goes 2 = .ok (.i2l, 1) := by decide +kernel
theorem dX8_goes_3 : decode cX8_goes 3 = .ok (.invokevirtual 112, 3) := by decide +kernel
theorem dX8_goes_6 : decode cX8_goes 6 = .ok (.ifCond .eq 7, 3) := by decide +kernel
theorem dX8_goes_13 : decode cX8_goes 13 = .ok (.bipush (-2), 2) := by decide +kernel
theorem dX8_goes_15 : decode cX8_goes 15 = .ok (.ireturn, 1) := by decide +kernel
theorem dX8_told_0 : decode cX8_told 0 = .ok (.aload_n 0, 1) := by decide +kernel
theorem dX8_told_1 : decode cX8_told 1 = .ok (.iload_n 1, 1) := by decide +kernel
theorem dX8_told_2 : decode cX8_told 2 = .ok (.i2l, 1) := by decide +kernel
theorem dX8_told_3 : decode cX8_told 3 = .ok (.invokevirtual 112, 3) := by decide +kernel
theorem dX8_told_6 : decode cX8_told 6 = .ok (.ifCond .ne 8, 3) := by decide +kernel
theorem dX8_told_9 : decode cX8_told 9 = .ok (.bipush (-2), 2) := by decide +kernel
theorem dX8_told_11 : decode cX8_told 11 = .ok (.goto 20, 3) := by decide +kernel
theorem dX8_told_31 : decode cX8_told 31 = .ok (.ireturn, 1) := by decide +kernel
theorem dX8_walker_0 : decode cX8_walker 0 = .ok (.aload_n 0, 1) := by decide +kernel
theorem dX8_walker_1 : decode cX8_walker 1 = .ok (.iload_n 1, 1) := by decide +kernel
theorem dX8_walker_2 : decode cX8_walker 2 = .ok (.i2l, 1) := by decide +kernel
theorem dX8_walker_3 : decode cX8_walker 3 = .ok (.invokevirtual 254, 3) := by decide +kernel
theorem dX8_walker_6 : decode cX8_walker 6 = .ok (.ifCond .eq 29, 3) := by decide +kernel
theorem dX8_walker_35 : decode cX8_walker 35 = .ok (.bipush (-2), 2) := by decide +kernel
theorem dX8_walker_37 : decode cX8_walker 37 = .ok (.ireturn, 1) := by decide +kernel
theorem dX8_doors_0 : decode cX8_doors 0 = .ok (.aload_n 0, 1) := by decide +kernel
theorem dX8_doors_1 : decode cX8_doors 1 = .ok (.iload_n 1, 1) := by decide +kernel
theorem dX8_doors_2 : decode cX8_doors 2 = .ok (.i2l, 1) := by decide +kernel
theorem dX8_doors_3 : decode cX8_doors 3 = .ok (.invokevirtual 112, 3) := by decide +kernel
theorem dX8_doors_6 : decode cX8_doors 6 = .ok (.ifCond .ne 6, 3) := by decide +kernel
theorem dX8_doors_9 : decode cX8_doors 9 = .ok (.bipush (-2), 2) := by decide +kernel
theorem dX8_doors_11 : decode cX8_doors 11 = .ok (.ireturn, 1) := by decide +kernel
theorem dX8_armless_0 : decode cX8_armless 0 = .ok (.aload_n 0, 1) := by decide +kernel
theorem dX8_armless_1 : decode cX8_armless 1 = .ok (.invokevirtual 102, 3) := by decide +kernel
theorem dX8_armless_4 : decode cX8_armless 4 = .ok (.ifCond .ne 6, 3) := by decide +kernel
theorem dX8_armless_7 : decode cX8_armless 7 = .ok (.bipush (-2), 2) := by decide +kernel
theorem dX8_armless_9 : decode cX8_armless 9 = .ok (.ireturn, 1) := by decide +kernel
theorem dX8_asItIs_0 : decode cX8_asItIs 0 = .ok (.aload_n 0, 1) := by decide +kernel
theorem dX8_asItIs_1 : decode cX8_asItIs 1 = .ok (.aload_n 0, 1) := by decide +kernel
theorem dX8_asItIs_2 : decode cX8_asItIs 2 = .ok (.getfield 9, 3) := by decide +kernel
theorem dX8_asItIs_5 : decode cX8_asItIs 5 = .ok (.iconst 1, 1) := by decide +kernel
theorem dX8_asItIs_6 : decode cX8_asItIs 6 = .ok (.iaload, 1) := by decide +kernel
theorem dX8_asItIs_7 : decode cX8_asItIs 7 = .ok (.putfield 257, 3) := by decide +kernel
theorem dX8_asItIs_10 : decode cX8_asItIs 10 = .ok (.aload_n 0, 1) := by decide +kernel
theorem dX8_asItIs_11 : decode cX8_asItIs 11 = .ok (.iconst 0, 1) := by decide +kernel
theorem dX8_asItIs_12 : decode cX8_asItIs 12 = .ok (.putfield 260, 3) := by decide +kernel
theorem dX8_asItIs_15 : decode cX8_asItIs 15 = .ok (.aload_n 0, 1) := by decide +kernel
theorem dX8_asItIs_16 : decode cX8_asItIs 16 = .ok (.bipush 127, 2) := by decide +kernel
theorem dX8_asItIs_18 : decode cX8_asItIs 18 = .ok (.putfield 263, 3) := by decide +kernel
theorem dX8_asItIs_21 : decode cX8_asItIs 21 = .ok (.iconst 0, 1) := by decide +kernel
theorem dX8_asItIs_22 : decode cX8_asItIs 22 = .ok (.istore_n 1, 1) := by decide +kernel
theorem dX8_asItIs_23 : decode cX8_asItIs 23 = .ok (.iload_n 1, 1) := by decide +kernel
theorem dX8_asItIs_24 : decode cX8_asItIs 24 = .ok (.bipush 7, 2) := by decide +kernel
theorem dX8_asItIs_26 : decode cX8_asItIs 26 = .ok (.if_icmp .ge 20, 3) := by decide +kernel
theorem dX8_asItIs_29 : decode cX8_asItIs 29 = .ok (.aload_n 0, 1) := by decide +kernel
theorem dX8_asItIs_30 : decode cX8_asItIs 30 = .ok (.getfield 34, 3) := by decide +kernel
theorem dX8_asItIs_33 : decode cX8_asItIs 33 = .ok (.iload_n 1, 1) := by decide +kernel
theorem dX8_asItIs_34 : decode cX8_asItIs 34 = .ok (.aload_n 0, 1) := by decide +kernel
theorem dX8_asItIs_35 : decode cX8_asItIs 35 = .ok (.iload_n 1, 1) := by decide +kernel
theorem dX8_asItIs_36 : decode cX8_asItIs 36 = .ok (.invokevirtual 251, 3) := by decide +kernel
theorem dX8_asItIs_39 : decode cX8_asItIs 39 = .ok (.iastore, 1) := by decide +kernel
theorem dX8_asItIs_40 : decode cX8_asItIs 40 = .ok (.iinc 1 1, 3) := by decide +kernel
theorem dX8_asItIs_43 : decode cX8_asItIs 43 = .ok (.goto (-20), 3) := by decide +kernel
theorem dX8_asItIs_46 : decode cX8_asItIs 46 = .ok (.iconst 0, 1) := by decide +kernel
theorem dX8_asItIs_47 : decode cX8_asItIs 47 = .ok (.istore_n 1, 1) := by decide +kernel
theorem dX8_asItIs_48 : decode cX8_asItIs 48 = .ok (.iload_n 1, 1) := by decide +kernel
theorem dX8_asItIs_49 : decode cX8_asItIs 49 = .ok (.bipush 8, 2) := by decide +kernel
theorem dX8_asItIs_51 : decode cX8_asItIs 51 = .ok (.if_icmp .ge 28, 3) := by decide +kernel
theorem dX8_asItIs_54 : decode cX8_asItIs 54 = .ok (.aload_n 0, 1) := by decide +kernel
theorem dX8_asItIs_55 : decode cX8_asItIs 55 = .ok (.getfield 37, 3) := by decide +kernel
theorem dX8_asItIs_58 : decode cX8_asItIs 58 = .ok (.iload_n 1, 1) := by decide +kernel
theorem dX8_asItIs_59 : decode cX8_asItIs 59 = .ok (.aload_n 0, 1) := by decide +kernel
theorem dX8_asItIs_60 : decode cX8_asItIs 60 = .ok (.getfield 9, 3) := by decide +kernel
theorem dX8_asItIs_63 : decode cX8_asItIs 63 = .ok (.bipush 56, 2) := by decide +kernel
theorem dX8_asItIs_65 : decode cX8_asItIs 65 = .ok (.iconst 2, 1) := by decide +kernel
theorem dX8_asItIs_66 : decode cX8_asItIs 66 = .ok (.iload_n 1, 1) := by decide +kernel
theorem dX8_asItIs_67 : decode cX8_asItIs 67 = .ok (.imul, 1) := by decide +kernel
theorem dX8_asItIs_68 : decode cX8_asItIs 68 = .ok (.iadd, 1) := by decide +kernel
theorem dX8_asItIs_69 : decode cX8_asItIs 69 = .ok (.iconst 1, 1) := by decide +kernel
theorem dX8_asItIs_70 : decode cX8_asItIs 70 = .ok (.iadd, 1) := by decide +kernel
theorem dX8_asItIs_71 : decode cX8_asItIs 71 = .ok (.iaload, 1) := by decide +kernel
theorem dX8_asItIs_72 : decode cX8_asItIs 72 = .ok (.iastore, 1) := by decide +kernel
theorem dX8_asItIs_73 : decode cX8_asItIs 73 = .ok (.iinc 1 1, 3) := by decide +kernel
theorem dX8_asItIs_76 : decode cX8_asItIs 76 = .ok (.goto (-28), 3) := by decide +kernel
theorem dX8_asItIs_79 : decode cX8_asItIs 79 = .ok (.return_, 1) := by decide +kernel
theorem dX8_goAll_0 : decode cX8_goAll 0 = .ok (.iconst 0, 1) := by decide +kernel
theorem dX8_goAll_1 : decode cX8_goAll 1 = .ok (.istore_n 1, 1) := by decide +kernel
theorem dX8_goAll_2 : decode cX8_goAll 2 = .ok (.iload_n 1, 1) := by decide +kernel
theorem dX8_goAll_3 : decode cX8_goAll 3 = .ok (.bipush 7, 2) := by decide +kernel
theorem dX8_goAll_5 : decode cX8_goAll 5 = .ok (.if_icmp .ge 21, 3) := by decide +kernel
theorem dX8_goAll_8 : decode cX8_goAll 8 = .ok (.aload_n 0, 1) := by decide +kernel
theorem dX8_goAll_9 : decode cX8_goAll 9 = .ok (.getfield 40, 3) := by decide +kernel
theorem dX8_goAll_12 : decode cX8_goAll 12 = .ok (.iload_n 1, 1) := by decide +kernel
theorem dX8_goAll_13 : decode cX8_goAll 13 = .ok (.aload_n 0, 1) := by decide +kernel
theorem dX8_goAll_14 : decode cX8_goAll 14 = .ok (.getfield 34, 3) := by decide +kernel
theorem dX8_goAll_17 : decode cX8_goAll 17 = .ok (.iload_n 1, 1) := by decide +kernel
theorem dX8_goAll_18 : decode cX8_goAll 18 = .ok (.iaload, 1) := by decide +kernel
theorem dX8_goAll_19 : decode cX8_goAll 19 = .ok (.iastore, 1) := by decide +kernel
theorem dX8_goAll_20 : decode cX8_goAll 20 = .ok (.iinc 1 1, 3) := by decide +kernel
theorem dX8_goAll_23 : decode cX8_goAll 23 = .ok (.goto (-21), 3) := by decide +kernel
theorem dX8_goAll_26 : decode cX8_goAll 26 = .ok (.iconst 0, 1) := by decide +kernel
theorem dX8_goAll_27 : decode cX8_goAll 27 = .ok (.istore_n 1, 1) := by decide +kernel
theorem dX8_goAll_28 : decode cX8_goAll 28 = .ok (.iload_n 1, 1) := by decide +kernel
theorem dX8_goAll_29 : decode cX8_goAll 29 = .ok (.bipush 28, 2) := by decide +kernel
theorem dX8_goAll_31 : decode cX8_goAll 31 = .ok (.if_icmp .ge 16, 3) := by decide +kernel
theorem dX8_goAll_34 : decode cX8_goAll 34 = .ok (.aload_n 0, 1) := by decide +kernel
theorem dX8_goAll_35 : decode cX8_goAll 35 = .ok (.getfield 55, 3) := by decide +kernel
theorem dX8_goAll_38 : decode cX8_goAll 38 = .ok (.iload_n 1, 1) := by decide +kernel
theorem dX8_goAll_39 : decode cX8_goAll 39 = .ok (.iconst 0, 1) := by decide +kernel
theorem dX8_goAll_40 : decode cX8_goAll 40 = .ok (.iastore, 1) := by decide +kernel
theorem dX8_goAll_41 : decode cX8_goAll 41 = .ok (.iinc 1 1, 3) := by decide +kernel
theorem dX8_goAll_44 : decode cX8_goAll 44 = .ok (.goto (-16), 3) := by decide +kernel
theorem dX8_goAll_47 : decode cX8_goAll 47 = .ok (.iconst 0, 1) := by decide +kernel
theorem dX8_goAll_48 : decode cX8_goAll 48 = .ok (.istore_n 1, 1) := by decide +kernel
theorem dX8_goAll_49 : decode cX8_goAll 49 = .ok (.iload_n 1, 1) := by decide +kernel
theorem dX8_goAll_50 : decode cX8_goAll 50 = .ok (.iconst 4, 1) := by decide +kernel
theorem dX8_goAll_51 : decode cX8_goAll 51 = .ok (.if_icmp .ge 23, 3) := by decide +kernel
theorem dX8_goAll_54 : decode cX8_goAll 54 = .ok (.aload_n 0, 1) := by decide +kernel
theorem dX8_goAll_55 : decode cX8_goAll 55 = .ok (.getfield 61, 3) := by decide +kernel
theorem dX8_goAll_58 : decode cX8_goAll 58 = .ok (.iload_n 1, 1) := by decide +kernel
theorem dX8_goAll_59 : decode cX8_goAll 59 = .ok (.iconst 0, 1) := by decide +kernel
theorem dX8_goAll_60 : decode cX8_goAll 60 = .ok (.iastore, 1) := by decide +kernel
theorem dX8_goAll_61 : decode cX8_goAll 61 = .ok (.aload_n 0, 1) := by decide +kernel
theorem dX8_goAll_62 : decode cX8_goAll 62 = .ok (.getfield 64, 3) := by decide +kernel
theorem dX8_goAll_65 : decode cX8_goAll 65 = .ok (.iload_n 1, 1) := by decide +kernel
theorem dX8_goAll_66 : decode cX8_goAll 66 = .ok (.iconst 0, 1) := by decide +kernel
theorem dX8_goAll_67 : decode cX8_goAll 67 = .ok (.iastore, 1) := by decide +kernel
theorem dX8_goAll_68 : decode cX8_goAll 68 = .ok (.iinc 1 1, 3) := by decide +kernel
theorem dX8_goAll_71 : decode cX8_goAll 71 = .ok (.goto (-22), 3) := by decide +kernel
theorem dX8_goAll_74 : decode cX8_goAll 74 = .ok (.iconst 0, 1) := by decide +kernel
theorem dX8_goAll_75 : decode cX8_goAll 75 = .ok (.istore_n 1, 1) := by decide +kernel
theorem dX8_goAll_76 : decode cX8_goAll 76 = .ok (.iload_n 1, 1) := by decide +kernel
theorem dX8_goAll_77 : decode cX8_goAll 77 = .ok (.bipush 8, 2) := by decide +kernel
theorem dX8_goAll_79 : decode cX8_goAll 79 = .ok (.if_icmp .ge 23, 3) := by decide +kernel
theorem dX8_goAll_82 : decode cX8_goAll 82 = .ok (.aload_n 0, 1) := by decide +kernel
theorem dX8_goAll_83 : decode cX8_goAll 83 = .ok (.getfield 43, 3) := by decide +kernel
theorem dX8_goAll_86 : decode cX8_goAll 86 = .ok (.iload_n 1, 1) := by decide +kernel
theorem dX8_goAll_87 : decode cX8_goAll 87 = .ok (.iconst (-1), 1) := by decide +kernel
theorem dX8_goAll_88 : decode cX8_goAll 88 = .ok (.iastore, 1) := by decide +kernel
theorem dX8_goAll_89 : decode cX8_goAll 89 = .ok (.aload_n 0, 1) := by decide +kernel
theorem dX8_goAll_90 : decode cX8_goAll 90 = .ok (.getfield 58, 3) := by decide +kernel
theorem dX8_goAll_93 : decode cX8_goAll 93 = .ok (.iload_n 1, 1) := by decide +kernel
theorem dX8_goAll_94 : decode cX8_goAll 94 = .ok (.iconst 0, 1) := by decide +kernel
theorem dX8_goAll_95 : decode cX8_goAll 95 = .ok (.iastore, 1) := by decide +kernel
theorem dX8_goAll_96 : decode cX8_goAll 96 = .ok (.iinc 1 1, 3) := by decide +kernel
theorem dX8_goAll_99 : decode cX8_goAll 99 = .ok (.goto (-23), 3) := by decide +kernel
theorem dX8_goAll_102 : decode cX8_goAll 102 = .ok (.iconst 0, 1) := by decide +kernel
theorem dX8_goAll_103 : decode cX8_goAll 103 = .ok (.istore_n 1, 1) := by decide +kernel
theorem dX8_goAll_104 : decode cX8_goAll 104 = .ok (.iload_n 1, 1) := by decide +kernel
theorem dX8_goAll_105 : decode cX8_goAll 105 = .ok (.aload_n 0, 1) := by decide +kernel
theorem dX8_goAll_106 : decode cX8_goAll 106 = .ok (.invokevirtual 106, 3) := by decide +kernel
theorem dX8_goAll_109 : decode cX8_goAll 109 = .ok (.if_icmp .gt 121, 3) := by decide +kernel
theorem dX8_goAll_112 : decode cX8_goAll 112 = .ok (.iconst 0, 1) := by decide +kernel
theorem dX8_goAll_113 : decode cX8_goAll 113 = .ok (.istore_n 2, 1) := by decide +kernel
theorem dX8_goAll_114 : decode cX8_goAll 114 = .ok (.iload_n 2, 1) := by decide +kernel
theorem dX8_goAll_115 : decode cX8_goAll 115 = .ok (.aload_n 0, 1) := by decide +kernel
theorem dX8_goAll_116 : decode cX8_goAll 116 = .ok (.invokevirtual 109, 3) := by decide +kernel
theorem dX8_goAll_119 : decode cX8_goAll 119 = .ok (.if_icmp .ge 53, 3) := by decide +kernel
theorem dX8_goAll_172 : decode cX8_goAll 172 = .ok (.iconst 0, 1) := by decide +kernel
theorem dX8_goAll_173 : decode cX8_goAll 173 = .ok (.istore_n 2, 1) := by decide +kernel
theorem dX8_goAll_174 : decode cX8_goAll 174 = .ok (.iload_n 2, 1) := by decide +kernel
theorem dX8_goAll_175 : decode cX8_goAll 175 = .ok (.bipush 7, 2) := by decide +kernel
theorem dX8_goAll_177 : decode cX8_goAll 177 = .ok (.if_icmp .ge 26, 3) := by decide +kernel
theorem dX8_goAll_180 : decode cX8_goAll 180 = .ok (.aload_n 0, 1) := by decide +kernel
theorem dX8_goAll_181 : decode cX8_goAll 181 = .ok (.getfield 49, 3) := by decide +kernel
theorem dX8_goAll_184 : decode cX8_goAll 184 = .ok (.bipush 7, 2) := by decide +kernel
theorem dX8_goAll_186 : decode cX8_goAll 186 = .ok (.iload_n 1, 1) := by decide +kernel
theorem dX8_goAll_187 : decode cX8_goAll 187 = .ok (.imul, 1) := by decide +kernel
theorem dX8_goAll_188 : decode cX8_goAll 188 = .ok (.iload_n 2, 1) := by decide +kernel
theorem dX8_goAll_189 : decode cX8_goAll 189 = .ok (.iadd, 1) := by decide +kernel
theorem dX8_goAll_190 : decode cX8_goAll 190 = .ok (.aload_n 0, 1) := by decide +kernel
theorem dX8_goAll_191 : decode cX8_goAll 191 = .ok (.getfield 40, 3) := by decide +kernel
theorem dX8_goAll_194 : decode cX8_goAll 194 = .ok (.iload_n 2, 1) := by decide +kernel
theorem dX8_goAll_195 : decode cX8_goAll 195 = .ok (.iaload, 1) := by decide +kernel
theorem dX8_goAll_196 : decode cX8_goAll 196 = .ok (.iastore, 1) := by decide +kernel
theorem dX8_goAll_197 : decode cX8_goAll 197 = .ok (.iinc 2 1, 3) := by decide +kernel
theorem dX8_goAll_200 : decode cX8_goAll 200 = .ok (.goto (-26), 3) := by decide +kernel
theorem dX8_goAll_203 : decode cX8_goAll 203 = .ok (.iload_n 1, 1) := by decide +kernel
theorem dX8_goAll_204 : decode cX8_goAll 204 = .ok (.aload_n 0, 1) := by decide +kernel
theorem dX8_goAll_205 : decode cX8_goAll 205 = .ok (.invokevirtual 106, 3) := by decide +kernel
theorem dX8_goAll_208 : decode cX8_goAll 208 = .ok (.if_icmp .ne 4, 3) := by decide +kernel
theorem dX8_goAll_211 : decode cX8_goAll 211 = .ok (.return_, 1) := by decide +kernel
theorem dX8_asksHeath_0 : decode cX8_asksHeath 0 = .ok (.aload_n 0, 1) := by decide +kernel
theorem dX8_asksHeath_1 : decode cX8_asksHeath 1 = .ok (.invokevirtual 286, 3) := by decide +kernel
theorem dX8_asksHeath_4 : decode cX8_asksHeath 4 = .ok (.aload_n 0, 1) := by decide +kernel
theorem dX8_asksHeath_5 : decode cX8_asksHeath 5 = .ok (.invokevirtual 289, 3) := by decide +kernel
theorem dX8_asksHeath_8 : decode cX8_asksHeath 8 = .ok (.aload_n 0, 1) := by decide +kernel
theorem dX8_asksHeath_9 : decode cX8_asksHeath 9 = .ok (.invokevirtual 102, 3) := by decide +kernel
theorem dX8_asksHeath_12 : decode cX8_asksHeath 12 = .ok (.ireturn, 1) := by decide +kernel
theorem dX8_asksHour_0 : decode cX8_asksHour 0 = .ok (.aload_n 0, 1) := by decide +kernel
theorem dX8_asksHour_1 : decode cX8_asksHour 1 = .ok (.invokevirtual 292, 3) := by decide +kernel
theorem dX8_asksHour_4 : decode cX8_asksHour 4 = .ok (.pop, 1) := by decide +kernel
theorem dX8_asksHour_5 : decode cX8_asksHour 5 = .ok (.aload_n 0, 1) := by decide +kernel
theorem dX8_asksHour_6 : decode cX8_asksHour 6 = .ok (.iload_n 1, 1) := by decide +kernel
theorem dX8_asksHour_7 : decode cX8_asksHour 7 = .ok (.i2l, 1) := by decide +kernel
theorem dX8_asksHour_8 : decode cX8_asksHour 8 = .ok (.invokevirtual 295, 3) := by decide +kernel
theorem dX8_asksHour_11 : decode cX8_asksHour 11 = .ok (.ireturn, 1) := by decide +kernel
theorem dX8_asksWalker_0 : decode cX8_asksWalker 0 = .ok (.aload_n 0, 1) := by decide +kernel
theorem dX8_asksWalker_1 : decode cX8_asksWalker 1 = .ok (.invokevirtual 292, 3) := by decide +kernel
theorem dX8_asksWalker_4 : decode cX8_asksWalker 4 = .ok (.pop, 1) := by decide +kernel
theorem dX8_asksWalker_5 : decode cX8_asksWalker 5 = .ok (.aload_n 0, 1) := by decide +kernel
theorem dX8_asksWalker_6 : decode cX8_asksWalker 6 = .ok (.iload_n 1, 1) := by decide +kernel
theorem dX8_asksWalker_7 : decode cX8_asksWalker 7 = .ok (.i2l, 1) := by decide +kernel
theorem dX8_asksWalker_8 : decode cX8_asksWalker 8 = .ok (.invokevirtual 254, 3) := by decide +kernel
theorem dX8_asksWalker_11 : decode cX8_asksWalker 11 = .ok (.ireturn, 1) := by decide +kernel
theorem dX8_asksPost_0 : decode cX8_asksPost 0 = .ok (.aload_n 0, 1) := by decide +kernel
theorem dX8_asksPost_1 : decode cX8_asksPost 1 = .ok (.invokevirtual 292, 3) := by decide +kernel
theorem dX8_asksPost_4 : decode cX8_asksPost 4 = .ok (.pop, 1) := by decide +kernel
theorem dX8_asksPost_5 : decode cX8_asksPost 5 = .ok (.aload_n 0, 1) := by decide +kernel
theorem dX8_asksPost_6 : decode cX8_asksPost 6 = .ok (.iload_n 1, 1) := by decide +kernel
theorem dX8_asksPost_7 : decode cX8_asksPost 7 = .ok (.i2l, 1) := by decide +kernel
theorem dX8_asksPost_8 : decode cX8_asksPost 8 = .ok (.invokevirtual 112, 3) := by decide +kernel
theorem dX8_asksPost_11 : decode cX8_asksPost 11 = .ok (.ireturn, 1) := by decide +kernel
theorem dX8_at_0 : decode cX8_at 0 = .ok (.aload_n 0, 1) := by decide +kernel
theorem dX8_at_1 : decode cX8_at 1 = .ok (.iload_n 2, 1) := by decide +kernel
theorem dX8_at_2 : decode cX8_at 2 = .ok (.invokevirtual 301, 3) := by decide +kernel
theorem dX8_at_5 : decode cX8_at 5 = .ok (.ifCond .eq 21, 3) := by decide +kernel
theorem dX8_at_26 : decode cX8_at 26 = .ok (.bipush (-2), 2) := by decide +kernel
theorem dX8_at_28 : decode cX8_at 28 = .ok (.ireturn, 1) := by decide +kernel
theorem dX8_arm_0 : decode cX8_arm 0 = .ok (.aload_n 0, 1) := by decide +kernel
theorem dX8_arm_1 : decode cX8_arm 1 = .ok (.iload_n 2, 1) := by decide +kernel
theorem dX8_arm_2 : decode cX8_arm 2 = .ok (.invokevirtual 301, 3) := by decide +kernel
theorem dX8_arm_5 : decode cX8_arm 5 = .ok (.ifCond .eq 12, 3) := by decide +kernel
theorem dX8_arm_17 : decode cX8_arm 17 = .ok (.bipush (-2), 2) := by decide +kernel
theorem dX8_arm_19 : decode cX8_arm 19 = .ok (.ireturn, 1) := by decide +kernel
theorem dX8_here_0 : decode cX8_here 0 = .ok (.aload_n 0, 1) := by decide +kernel
theorem dX8_here_1 : decode cX8_here 1 = .ok (.iload_n 2, 1) := by decide +kernel
theorem dX8_here_2 : decode cX8_here 2 = .ok (.invokevirtual 301, 3) := by decide +kernel
theorem dX8_here_5 : decode cX8_here 5 = .ok (.ifCond .eq 21, 3) := by decide +kernel
theorem dX8_here_26 : decode cX8_here 26 = .ok (.bipush (-2), 2) := by decide +kernel
theorem dX8_here_28 : decode cX8_here 28 = .ok (.ireturn, 1) := by decide +kernel
theorem dX8_sent_0 : decode cX8_sent 0 = .ok (.aload_n 0, 1) := by decide +kernel
theorem dX8_sent_1 : decode cX8_sent 1 = .ok (.invokevirtual 292, 3) := by decide +kernel
theorem dX8_sent_4 : decode cX8_sent 4 = .ok (.pop, 1) := by decide +kernel
theorem dX8_sent_5 : decode cX8_sent 5 = .ok (.aload_n 0, 1) := by decide +kernel
theorem dX8_sent_6 : decode cX8_sent 6 = .ok (.iload_n 1, 1) := by decide +kernel
theorem dX8_sent_7 : decode cX8_sent 7 = .ok (.i2l, 1) := by decide +kernel
theorem dX8_sent_8 : decode cX8_sent 8 = .ok (.invokevirtual 311, 3) := by decide +kernel
theorem dX8_sent_11 : decode cX8_sent 11 = .ok (.ifCond .eq 12, 3) := by decide +kernel
theorem dX8_sent_23 : decode cX8_sent 23 = .ok (.bipush (-2), 2) := by decide +kernel
theorem dX8_sent_25 : decode cX8_sent 25 = .ok (.ireturn, 1) := by decide +kernel
theorem dX8_sends_0 : decode cX8_sends 0 = .ok (.aload_n 0, 1) := by decide +kernel
theorem dX8_sends_1 : decode cX8_sends 1 = .ok (.iload_n 1, 1) := by decide +kernel
theorem dX8_sends_2 : decode cX8_sends 2 = .ok (.invokevirtual 314, 3) := by decide +kernel
theorem dX8_sends_5 : decode cX8_sends 5 = .ok (.ifCond .eq 11, 3) := by decide +kernel
theorem dX8_sends_16 : decode cX8_sends 16 = .ok (.bipush (-2), 2) := by decide +kernel
theorem dX8_sends_18 : decode cX8_sends 18 = .ok (.ireturn, 1) := by decide +kernel
theorem dX8_used_0 : decode cX8_used 0 = .ok (.aload_n 0, 1) := by decide +kernel
theorem dX8_used_1 : decode cX8_used 1 = .ok (.iload_n 1, 1) := by decide +kernel
theorem dX8_used_2 : decode cX8_used 2 = .ok (.invokevirtual 314, 3) := by decide +kernel
theorem dX8_used_5 : decode cX8_used 5 = .ok (.ifCond .eq 7, 3) := by decide +kernel
theorem dX8_used_12 : decode cX8_used 12 = .ok (.bipush (-2), 2) := by decide +kernel
theorem dX8_used_14 : decode cX8_used 14 = .ok (.ireturn, 1) := by decide +kernel
theorem dX8_walks_0 : decode cX8_walks 0 = .ok (.aload_n 0, 1) := by decide +kernel
theorem dX8_walks_1 : decode cX8_walks 1 = .ok (.iload_n 1, 1) := by decide +kernel
theorem dX8_walks_2 : decode cX8_walks 2 = .ok (.invokevirtual 320, 3) := by decide +kernel
theorem dX8_walks_5 : decode cX8_walks 5 = .ok (.ifCond .eq 12, 3) := by decide +kernel
theorem dX8_walks_17 : decode cX8_walks 17 = .ok (.bipush (-2), 2) := by decide +kernel
theorem dX8_walks_19 : decode cX8_walks 19 = .ok (.ireturn, 1) := by decide +kernel
theorem dX8_home_0 : decode cX8_home 0 = .ok (.aload_n 0, 1) := by decide +kernel
theorem dX8_home_1 : decode cX8_home 1 = .ok (.iload_n 1, 1) := by decide +kernel
theorem dX8_home_2 : decode cX8_home 2 = .ok (.invokevirtual 320, 3) := by decide +kernel
theorem dX8_home_5 : decode cX8_home 5 = .ok (.ifCond .eq 11, 3) := by decide +kernel
theorem dX8_home_16 : decode cX8_home 16 = .ok (.bipush (-2), 2) := by decide +kernel
theorem dX8_home_18 : decode cX8_home 18 = .ok (.ireturn, 1) := by decide +kernel
theorem dX8_inn_0 : decode cX8_inn 0 = .ok (.aload_n 0, 1) := by decide +kernel
theorem dX8_inn_1 : decode cX8_inn 1 = .ok (.iload_n 1, 1) := by decide +kernel
theorem dX8_inn_2 : decode cX8_inn 2 = .ok (.invokevirtual 320, 3) := by decide +kernel
theorem dX8_inn_5 : decode cX8_inn 5 = .ok (.ifCond .ne 6, 3) := by decide +kernel
theorem dX8_inn_8 : decode cX8_inn 8 = .ok (.bipush (-2), 2) := by decide +kernel
theorem dX8_inn_10 : decode cX8_inn 10 = .ok (.ireturn, 1) := by decide +kernel
theorem dX8_trail_0 : decode cX8_trail 0 = .ok (.aload_n 0, 1) := by decide +kernel
theorem dX8_trail_1 : decode cX8_trail 1 = .ok (.iload_n 1, 1) := by decide +kernel
theorem dX8_trail_2 : decode cX8_trail 2 = .ok (.invokevirtual 320, 3) := by decide +kernel
theorem dX8_trail_5 : decode cX8_trail 5 = .ok (.ifCond .eq 15, 3) := by decide +kernel
theorem dX8_trail_20 : decode cX8_trail 20 = .ok (.bipush (-2), 2) := by decide +kernel
theorem dX8_trail_22 : decode cX8_trail 22 = .ok (.ireturn, 1) := by decide +kernel
theorem dX8_again_0 : decode cX8_again 0 = .ok (.aload_n 0, 1) := by decide +kernel
theorem dX8_again_1 : decode cX8_again 1 = .ok (.iload_n 1, 1) := by decide +kernel
theorem dX8_again_2 : decode cX8_again 2 = .ok (.invokevirtual 320, 3) := by decide +kernel
theorem dX8_again_5 : decode cX8_again 5 = .ok (.ifCond .ne 6, 3) := by decide +kernel
theorem dX8_again_8 : decode cX8_again 8 = .ok (.bipush (-2), 2) := by decide +kernel
theorem dX8_again_10 : decode cX8_again 10 = .ok (.ireturn, 1) := by decide +kernel
theorem dX8_lingers_0 : decode cX8_lingers 0 = .ok (.aload_n 0, 1) := by decide +kernel
theorem dX8_lingers_1 : decode cX8_lingers 1 = .ok (.iload_n 1, 1) := by decide +kernel
theorem dX8_lingers_2 : decode cX8_lingers 2 = .ok (.invokevirtual 320, 3) := by decide +kernel
theorem dX8_lingers_5 : decode cX8_lingers 5 = .ok (.ifCond .ne 6, 3) := by decide +kernel
theorem dX8_lingers_8 : decode cX8_lingers 8 = .ok (.bipush (-2), 2) := by decide +kernel
theorem dX8_lingers_10 : decode cX8_lingers 10 = .ok (.ireturn, 1) := by decide +kernel
theorem dX8_guests_0 : decode cX8_guests 0 = .ok (.aload_n 0, 1) := by decide +kernel
theorem dX8_guests_1 : decode cX8_guests 1 = .ok (.iload_n 2, 1) := by decide +kernel
theorem dX8_guests_2 : decode cX8_guests 2 = .ok (.invokevirtual 301, 3) := by decide +kernel
theorem dX8_guests_5 : decode cX8_guests 5 = .ok (.ifCond .eq 21, 3) := by decide +kernel
theorem dX8_guests_26 : decode cX8_guests 26 = .ok (.bipush (-2), 2) := by decide +kernel
theorem dX8_guests_28 : decode cX8_guests 28 = .ok (.ireturn, 1) := by decide +kernel
theorem dX8_full_0 : decode cX8_full 0 = .ok (.aload_n 0, 1) := by decide +kernel
theorem dX8_full_1 : decode cX8_full 1 = .ok (.invokevirtual 292, 3) := by decide +kernel
theorem dX8_full_4 : decode cX8_full 4 = .ok (.pop, 1) := by decide +kernel
theorem dX8_full_5 : decode cX8_full 5 = .ok (.aload_n 0, 1) := by decide +kernel
theorem dX8_full_6 : decode cX8_full 6 = .ok (.iload_n 1, 1) := by decide +kernel
theorem dX8_full_7 : decode cX8_full 7 = .ok (.i2l, 1) := by decide +kernel
theorem dX8_full_8 : decode cX8_full 8 = .ok (.invokevirtual 118, 3) := by decide +kernel
theorem dX8_full_11 : decode cX8_full 11 = .ok (.ifCond .ne 6, 3) := by decide +kernel
theorem dX8_full_14 : decode cX8_full 14 = .ok (.bipush (-2), 2) := by decide +kernel
theorem dX8_full_16 : decode cX8_full 16 = .ok (.ireturn, 1) := by decide +kernel
theorem dX8_refuses_0 : decode cX8_refuses 0 = .ok (.aload_n 0, 1) := by decide +kernel
theorem dX8_refuses_1 : decode cX8_refuses 1 = .ok (.invokevirtual 292, 3) := by decide +kernel
theorem dX8_refuses_4 : decode cX8_refuses 4 = .ok (.pop, 1) := by decide +kernel
theorem dX8_refuses_5 : decode cX8_refuses 5 = .ok (.aload_n 0, 1) := by decide +kernel
theorem dX8_refuses_6 : decode cX8_refuses 6 = .ok (.iload_n 1, 1) := by decide +kernel
theorem dX8_refuses_7 : decode cX8_refuses 7 = .ok (.i2l, 1) := by decide +kernel
theorem dX8_refuses_8 : decode cX8_refuses 8 = .ok (.invokevirtual 118, 3) := by decide +kernel
theorem dX8_refuses_11 : decode cX8_refuses 11 = .ok (.ifCond .eq 12, 3) := by decide +kernel
theorem dX8_refuses_23 : decode cX8_refuses 23 = .ok (.bipush (-2), 2) := by decide +kernel
theorem dX8_refuses_25 : decode cX8_refuses 25 = .ok (.ireturn, 1) := by decide +kernel
theorem dX8_inside_0 : decode cX8_inside 0 = .ok (.aload_n 0, 1) := by decide +kernel
theorem dX8_inside_1 : decode cX8_inside 1 = .ok (.iload_n 1, 1) := by decide +kernel
theorem dX8_inside_2 : decode cX8_inside 2 = .ok (.invokevirtual 301, 3) := by decide +kernel
theorem dX8_inside_5 : decode cX8_inside 5 = .ok (.ifCond .eq 11, 3) := by decide +kernel
theorem dX8_inside_16 : decode cX8_inside 16 = .ok (.bipush (-2), 2) := by decide +kernel
theorem dX8_inside_18 : decode cX8_inside 18 = .ok (.ireturn, 1) := by decide +kernel
theorem dX8_outside_0 : decode cX8_outside 0 = .ok (.aload_n 0, 1) := by decide +kernel
theorem dX8_outside_1 : decode cX8_outside 1 = .ok (.iload_n 1, 1) := by decide +kernel
theorem dX8_outside_2 : decode cX8_outside 2 = .ok (.invokevirtual 301, 3) := by decide +kernel
theorem dX8_outside_5 : decode cX8_outside 5 = .ok (.ifCond .ne 6, 3) := by decide +kernel
theorem dX8_outside_8 : decode cX8_outside 8 = .ok (.bipush (-2), 2) := by decide +kernel
theorem dX8_outside_10 : decode cX8_outside 10 = .ok (.ireturn, 1) := by decide +kernel
theorem dX8_done_0 : decode cX8_done 0 = .ok (.aload_n 0, 1) := by decide +kernel
theorem dX8_done_1 : decode cX8_done 1 = .ok (.invokevirtual 292, 3) := by decide +kernel
theorem dX8_done_4 : decode cX8_done 4 = .ok (.ifCond .ne 6, 3) := by decide +kernel
theorem dX8_done_7 : decode cX8_done 7 = .ok (.bipush (-2), 2) := by decide +kernel
theorem dX8_done_9 : decode cX8_done 9 = .ok (.ireturn, 1) := by decide +kernel
theorem dX8_crowd_0 : decode cX8_crowd 0 = .ok (.aload_n 0, 1) := by decide +kernel
theorem dX8_crowd_1 : decode cX8_crowd 1 = .ok (.iload_n 1, 1) := by decide +kernel
theorem dX8_crowd_2 : decode cX8_crowd 2 = .ok (.invokevirtual 301, 3) := by decide +kernel
theorem dX8_crowd_5 : decode cX8_crowd 5 = .ok (.ifCond .ne 6, 3) := by decide +kernel
theorem dX8_crowd_8 : decode cX8_crowd 8 = .ok (.bipush (-2), 2) := by decide +kernel
theorem dX8_crowd_10 : decode cX8_crowd 10 = .ok (.ireturn, 1) := by decide +kernel
theorem dX8_areTwo_0 : decode cX8_areTwo 0 = .ok (.aload_n 0, 1) := by decide +kernel
theorem dX8_areTwo_1 : decode cX8_areTwo 1 = .ok (.iload_n 1, 1) := by decide +kernel
theorem dX8_areTwo_2 : decode cX8_areTwo 2 = .ok (.i2l, 1) := by decide +kernel
theorem dX8_areTwo_3 : decode cX8_areTwo 3 = .ok (.invokevirtual 254, 3) := by decide +kernel
theorem dX8_areTwo_6 : decode cX8_areTwo 6 = .ok (.ifCond .eq 21, 3) := by decide +kernel
theorem dX8_areTwo_27 : decode cX8_areTwo 27 = .ok (.iconst 0, 1) := by decide +kernel
theorem dX8_areTwo_28 : decode cX8_areTwo 28 = .ok (.ireturn, 1) := by decide +kernel
theorem dX8_meet_0 : decode cX8_meet 0 = .ok (.aload_n 0, 1) := by decide +kernel
theorem dX8_meet_1 : decode cX8_meet 1 = .ok (.invokevirtual 292, 3) := by decide +kernel
theorem dX8_meet_4 : decode cX8_meet 4 = .ok (.pop, 1) := by decide +kernel
theorem dX8_meet_5 : decode cX8_meet 5 = .ok (.aload_n 0, 1) := by decide +kernel
theorem dX8_meet_6 : decode cX8_meet 6 = .ok (.iload_n 1, 1) := by decide +kernel
theorem dX8_meet_7 : decode cX8_meet 7 = .ok (.iload_n 2, 1) := by decide +kernel
theorem dX8_meet_8 : decode cX8_meet 8 = .ok (.invokevirtual 346, 3) := by decide +kernel
theorem dX8_meet_11 : decode cX8_meet 11 = .ok (.ifCond .ne 6, 3) := by decide +kernel
theorem dX8_meet_14 : decode cX8_meet 14 = .ok (.bipush (-2), 2) := by decide +kernel
theorem dX8_meet_16 : decode cX8_meet 16 = .ok (.ireturn, 1) := by decide +kernel
theorem dX8_busy_0 : decode cX8_busy 0 = .ok (.aload_n 0, 1) := by decide +kernel
theorem dX8_busy_1 : decode cX8_busy 1 = .ok (.invokevirtual 292, 3) := by decide +kernel
theorem dX8_busy_4 : decode cX8_busy 4 = .ok (.ifCond .ne 6, 3) := by decide +kernel
theorem dX8_busy_7 : decode cX8_busy 7 = .ok (.bipush (-2), 2) := by decide +kernel
theorem dX8_busy_9 : decode cX8_busy 9 = .ok (.ireturn, 1) := by decide +kernel
theorem dX8_idle_0 : decode cX8_idle 0 = .ok (.aload_n 0, 1) := by decide +kernel
theorem dX8_idle_1 : decode cX8_idle 1 = .ok (.invokevirtual 292, 3) := by decide +kernel
theorem dX8_idle_4 : decode cX8_idle 4 = .ok (.ifCond .ne 6, 3) := by decide +kernel
theorem dX8_idle_7 : decode cX8_idle 7 = .ok (.bipush (-2), 2) := by decide +kernel
theorem dX8_idle_9 : decode cX8_idle 9 = .ok (.ireturn, 1) := by decide +kernel
theorem dX8_reach_0 : decode cX8_reach 0 = .ok (.aload_n 0, 1) := by decide +kernel
theorem dX8_reach_1 : decode cX8_reach 1 = .ok (.iload_n 1, 1) := by decide +kernel
theorem dX8_reach_2 : decode cX8_reach 2 = .ok (.i2l, 1) := by decide +kernel
theorem dX8_reach_3 : decode cX8_reach 3 = .ok (.invokevirtual 112, 3) := by decide +kernel
theorem dX8_reach_6 : decode cX8_reach 6 = .ok (.ifCond .ne 6, 3) := by decide +kernel
theorem dX8_reach_9 : decode cX8_reach 9 = .ok (.bipush (-2), 2) := by decide +kernel
theorem dX8_reach_11 : decode cX8_reach 11 = .ok (.ireturn, 1) := by decide +kernel
theorem dX8_far_0 : decode cX8_far 0 = .ok (.aload_n 0, 1) := by decide +kernel
theorem dX8_far_1 : decode cX8_far 1 = .ok (.iload_n 1, 1) := by decide +kernel
theorem dX8_far_2 : decode cX8_far 2 = .ok (.i2l, 1) := by decide +kernel
theorem dX8_far_3 : decode cX8_far 3 = .ok (.invokevirtual 112, 3) := by decide +kernel
theorem dX8_far_6 : decode cX8_far 6 = .ok (.ifCond .eq 12, 3) := by decide +kernel
theorem dX8_far_18 : decode cX8_far 18 = .ok (.bipush (-2), 2) := by decide +kernel
theorem dX8_far_20 : decode cX8_far 20 = .ok (.ireturn, 1) := by decide +kernel
theorem dX8_setting_0 : decode cX8_setting 0 = .ok (.aload_n 0, 1) := by decide +kernel
theorem dX8_setting_1 : decode cX8_setting 1 = .ok (.iload_n 1, 1) := by decide +kernel
theorem dX8_setting_2 : decode cX8_setting 2 = .ok (.invokevirtual 301, 3) := by decide +kernel
theorem dX8_setting_5 : decode cX8_setting 5 = .ok (.ifCond .eq 11, 3) := by decide +kernel
theorem dX8_setting_16 : decode cX8_setting 16 = .ok (.bipush (-2), 2) := by decide +kernel
theorem dX8_setting_18 : decode cX8_setting 18 = .ok (.ireturn, 1) := by decide +kernel
theorem dX8_settings_0 : decode cX8_settings 0 = .ok (.aload_n 0, 1) := by decide +kernel
theorem dX8_settings_1 : decode cX8_settings 1 = .ok (.invokevirtual 102, 3) := by decide +kernel
theorem dX8_settings_4 : decode cX8_settings 4 = .ok (.ifCond .eq 10, 3) := by decide +kernel
theorem dX8_settings_14 : decode cX8_settings 14 = .ok (.bipush (-2), 2) := by decide +kernel
theorem dX8_settings_16 : decode cX8_settings 16 = .ok (.ireturn, 1) := by decide +kernel
theorem dX8_same_0 : decode cX8_same 0 = .ok (.aload_n 0, 1) := by decide +kernel
theorem dX8_same_1 : decode cX8_same 1 = .ok (.invokevirtual 292, 3) := by decide +kernel
theorem dX8_same_4 : decode cX8_same 4 = .ok (.ifCond .ne 6, 3) := by decide +kernel
theorem dX8_same_7 : decode cX8_same 7 = .ok (.bipush (-2), 2) := by decide +kernel
theorem dX8_same_9 : decode cX8_same 9 = .ok (.ireturn, 1) := by decide +kernel
theorem dX8_tree_0 : decode cX8_tree 0 = .ok (.aload_n 0, 1) := by decide +kernel
theorem dX8_tree_1 : decode cX8_tree 1 = .ok (.iload_n 1, 1) := by decide +kernel
theorem dX8_tree_2 : decode cX8_tree 2 = .ok (.invokevirtual 301, 3) := by decide +kernel
theorem dX8_tree_5 : decode cX8_tree 5 = .ok (.ifCond .ne 6, 3) := by decide +kernel
theorem dX8_tree_8 : decode cX8_tree 8 = .ok (.bipush (-2), 2) := by decide +kernel
theorem dX8_tree_10 : decode cX8_tree 10 = .ok (.ireturn, 1) := by decide +kernel
theorem dX8_ring_0 : decode cX8_ring 0 = .ok (.aload_n 0, 1) := by decide +kernel
theorem dX8_ring_1 : decode cX8_ring 1 = .ok (.iload_n 1, 1) := by decide +kernel
theorem dX8_ring_2 : decode cX8_ring 2 = .ok (.invokevirtual 301, 3) := by decide +kernel
theorem dX8_ring_5 : decode cX8_ring 5 = .ok (.ifCond .ne 6, 3) := by decide +kernel
theorem dX8_ring_8 : decode cX8_ring 8 = .ok (.bipush (-2), 2) := by decide +kernel
theorem dX8_ring_10 : decode cX8_ring 10 = .ok (.ireturn, 1) := by decide +kernel
theorem dX8_trees_0 : decode cX8_trees 0 = .ok (.aload_n 0, 1) := by decide +kernel
theorem dX8_trees_1 : decode cX8_trees 1 = .ok (.invokevirtual 102, 3) := by decide +kernel
theorem dX8_trees_4 : decode cX8_trees 4 = .ok (.ifCond .ne 6, 3) := by decide +kernel
theorem dX8_trees_7 : decode cX8_trees 7 = .ok (.bipush (-2), 2) := by decide +kernel
theorem dX8_trees_9 : decode cX8_trees 9 = .ok (.ireturn, 1) := by decide +kernel
theorem dX8_alone_0 : decode cX8_alone 0 = .ok (.aload_n 0, 1) := by decide +kernel
theorem dX8_alone_1 : decode cX8_alone 1 = .ok (.iload_n 1, 1) := by decide +kernel
theorem dX8_alone_2 : decode cX8_alone 2 = .ok (.i2l, 1) := by decide +kernel
theorem dX8_alone_3 : decode cX8_alone 3 = .ok (.invokevirtual 112, 3) := by decide +kernel
theorem dX8_alone_6 : decode cX8_alone 6 = .ok (.ifCond .ne 6, 3) := by decide +kernel
theorem dX8_alone_9 : decode cX8_alone 9 = .ok (.bipush (-2), 2) := by decide +kernel
theorem dX8_alone_11 : decode cX8_alone 11 = .ok (.ireturn, 1) := by decide +kernel
theorem dX8_steps_0 : decode cX8_steps 0 = .ok (.aload_n 0, 1) := by decide +kernel
theorem dX8_steps_1 : decode cX8_steps 1 = .ok (.iload_n 1, 1) := by decide +kernel
theorem dX8_steps_2 : decode cX8_steps 2 = .ok (.i2l, 1) := by decide +kernel
theorem dX8_steps_3 : decode cX8_steps 3 = .ok (.invokevirtual 112, 3) := by decide +kernel
theorem dX8_steps_6 : decode cX8_steps 6 = .ok (.ifCond .ne 6, 3) := by decide +kernel
theorem dX8_steps_9 : decode cX8_steps 9 = .ok (.bipush (-2), 2) := by decide +kernel
theorem dX8_steps_11 : decode cX8_steps 11 = .ok (.ireturn, 1) := by decide +kernel
theorem dX8_behind_0 : decode cX8_behind 0 = .ok (.aload_n 0, 1) := by decide +kernel
theorem dX8_behind_1 : decode cX8_behind 1 = .ok (.iload_n 1, 1) := by decide +kernel
theorem dX8_behind_2 : decode cX8_behind 2 = .ok (.i2l, 1) := by decide +kernel
theorem dX8_behind_3 : decode cX8_behind 3 = .ok (.invokevirtual 112, 3) := by decide +kernel
theorem dX8_behind_6 : decode cX8_behind 6 = .ok (.ifCond .ne 6, 3) := by decide +kernel
theorem dX8_behind_9 : decode cX8_behind 9 = .ok (.bipush (-2), 2) := by decide +kernel
theorem dX8_behind_11 : decode cX8_behind 11 = .ok (.ireturn, 1) := by decide +kernel
theorem dX8_nth_0 : decode cX8_nth 0 = .ok (.aload_n 0, 1) := by decide +kernel
theorem dX8_nth_1 : decode cX8_nth 1 = .ok (.iload_n 1, 1) := by decide +kernel
theorem dX8_nth_2 : decode cX8_nth 2 = .ok (.i2l, 1) := by decide +kernel
theorem dX8_nth_3 : decode cX8_nth 3 = .ok (.invokevirtual 112, 3) := by decide +kernel
theorem dX8_nth_6 : decode cX8_nth 6 = .ok (.ifCond .eq 15, 3) := by decide +kernel
theorem dX8_nth_21 : decode cX8_nth 21 = .ok (.bipush (-2), 2) := by decide +kernel
theorem dX8_nth_23 : decode cX8_nth 23 = .ok (.ireturn, 1) := by decide +kernel
theorem dX8_round_0 : decode cX8_round 0 = .ok (.aload_n 0, 1) := by decide +kernel
theorem dX8_round_1 : decode cX8_round 1 = .ok (.iload_n 1, 1) := by decide +kernel
theorem dX8_round_2 : decode cX8_round 2 = .ok (.i2l, 1) := by decide +kernel
theorem dX8_round_3 : decode cX8_round 3 = .ok (.invokevirtual 112, 3) := by decide +kernel
theorem dX8_round_6 : decode cX8_round 6 = .ok (.ifCond .ne 6, 3) := by decide +kernel
theorem dX8_round_9 : decode cX8_round 9 = .ok (.bipush (-2), 2) := by decide +kernel
theorem dX8_round_11 : decode cX8_round 11 = .ok (.ireturn, 1) := by decide +kernel
theorem dX8_houses_0 : decode cX8_houses 0 = .ok (.aload_n 0, 1) := by decide +kernel
theorem dX8_houses_1 : decode cX8_houses 1 = .ok (.iload_n 1, 1) := by decide +kernel
theorem dX8_houses_2 : decode cX8_houses 2 = .ok (.i2l, 1) := by decide +kernel
theorem dX8_houses_3 : decode cX8_houses 3 = .ok (.invokevirtual 112, 3) := by decide +kernel
theorem dX8_houses_6 : decode cX8_houses 6 = .ok (.ifCond .eq 24, 3) := by decide +kernel
theorem dX8_houses_30 : decode cX8_houses 30 = .ok (.bipush (-2), 2) := by decide +kernel
theorem dX8_houses_32 : decode cX8_houses 32 = .ok (.ireturn, 1) := by decide +kernel
theorem dX8_point_0 : decode cX8_point 0 = .ok (.aload_n 0, 1) := by decide +kernel
theorem dX8_point_1 : decode cX8_point 1 = .ok (.iload_n 1, 1) := by decide +kernel
theorem dX8_point_2 : decode cX8_point 2 = .ok (.invokevirtual 320, 3) := by decide +kernel
theorem dX8_point_5 : decode cX8_point 5 = .ok (.ifCond .eq 12, 3) := by decide +kernel
theorem dX8_point_17 : decode cX8_point 17 = .ok (.bipush (-2), 2) := by decide +kernel
theorem dX8_point_19 : decode cX8_point 19 = .ok (.ireturn, 1) := by decide +kernel
theorem dX8_best_0 : decode cX8_best 0 = .ok (.aload_n 0, 1) := by decide +kernel
theorem dX8_best_1 : decode cX8_best 1 = .ok (.invokevirtual 292, 3) := by decide +kernel
theorem dX8_best_4 : decode cX8_best 4 = .ok (.ifCond .ne 6, 3) := by decide +kernel
theorem dX8_best_7 : decode cX8_best 7 = .ok (.bipush (-2), 2) := by decide +kernel
theorem dX8_best_9 : decode cX8_best 9 = .ok (.ireturn, 1) := by decide +kernel
theorem dX8_crowds_0 : decode cX8_crowds 0 = .ok (.aload_n 0, 1) := by decide +kernel
theorem dX8_crowds_1 : decode cX8_crowds 1 = .ok (.invokevirtual 292, 3) := by decide +kernel
theorem dX8_crowds_4 : decode cX8_crowds 4 = .ok (.ifCond .ne 6, 3) := by decide +kernel
theorem dX8_crowds_7 : decode cX8_crowds 7 = .ok (.bipush (-2), 2) := by decide +kernel
theorem dX8_crowds_9 : decode cX8_crowds 9 = .ok (.ireturn, 1) := by decide +kernel
theorem dX8_askSeen_0 : decode cX8_askSeen 0 = .ok (.iload_n 1, 1) := by decide +kernel
theorem dX8_askSeen_1 : decode cX8_askSeen 1 = .ok (.invokestatic 394, 3) := by decide +kernel
theorem dX8_askSeen_4 : decode cX8_askSeen 4 = .ok (.ifCond .eq 10, 3) := by decide +kernel
theorem dX8_askSeen_7 : decode cX8_askSeen 7 = .ok (.aload_n 0, 1) := by decide +kernel
theorem dX8_askSeen_8 : decode cX8_askSeen 8 = .ok (.invokevirtual 102, 3) := by decide +kernel
theorem dX8_askSeen_11 : decode cX8_askSeen 11 = .ok (.ifCond .ne 6, 3) := by decide +kernel
theorem dX8_askSeen_14 : decode cX8_askSeen 14 = .ok (.bipush (-2), 2) := by decide +kernel
theorem dX8_askSeen_16 : decode cX8_askSeen 16 = .ok (.ireturn, 1) := by decide +kernel
theorem dX8_askMay_0 : decode cX8_askMay 0 = .ok (.aload_n 0, 1) := by decide +kernel
theorem dX8_askMay_1 : decode cX8_askMay 1 = .ok (.iload_n 2, 1) := by decide +kernel
theorem dX8_askMay_2 : decode cX8_askMay 2 = .ok (.i2l, 1) := by decide +kernel
theorem dX8_askMay_3 : decode cX8_askMay 3 = .ok (.invokevirtual 112, 3) := by decide +kernel
theorem dX8_askMay_6 : decode cX8_askMay 6 = .ok (.ifCond .eq 11, 3) := by decide +kernel
theorem dX8_askMay_17 : decode cX8_askMay 17 = .ok (.bipush (-2), 2) := by decide +kernel
theorem dX8_askMay_19 : decode cX8_askMay 19 = .ok (.ireturn, 1) := by decide +kernel
theorem dX8_may_0 : decode cX8_may 0 = .ok (.aload_n 0, 1) := by decide +kernel
theorem dX8_may_1 : decode cX8_may 1 = .ok (.iload_n 1, 1) := by decide +kernel
theorem dX8_may_2 : decode cX8_may 2 = .ok (.iload_n 2, 1) := by decide +kernel
theorem dX8_may_3 : decode cX8_may 3 = .ok (.invokevirtual 413, 3) := by decide +kernel
theorem dX8_may_6 : decode cX8_may 6 = .ok (.istore_n 3, 1) := by decide +kernel
theorem dX8_may_7 : decode cX8_may 7 = .ok (.iload_n 3, 1) := by decide +kernel
theorem dX8_may_8 : decode cX8_may 8 = .ok (.ifCond .ge 7, 3) := by decide +kernel
theorem dX8_may_11 : decode cX8_may 11 = .ok (.iload_n 3, 1) := by decide +kernel
theorem dX8_may_12 : decode cX8_may 12 = .ok (.goto 9, 3) := by decide +kernel
theorem dX8_may_21 : decode cX8_may 21 = .ok (.ireturn, 1) := by decide +kernel
theorem dX8_ask_0 : decode cX8_ask 0 = .ok (.aload_n 0, 1) := by decide +kernel
theorem dX8_ask_1 : decode cX8_ask 1 = .ok (.iload_n 1, 1) := by decide +kernel
theorem dX8_ask_2 : decode cX8_ask 2 = .ok (.iload_n 2, 1) := by decide +kernel
theorem dX8_ask_3 : decode cX8_ask 3 = .ok (.invokevirtual 413, 3) := by decide +kernel
theorem dX8_ask_6 : decode cX8_ask 6 = .ok (.istore_n 3, 1) := by decide +kernel
theorem dX8_ask_7 : decode cX8_ask 7 = .ok (.iload_n 3, 1) := by decide +kernel
theorem dX8_ask_8 : decode cX8_ask 8 = .ok (.ifCond .ge 7, 3) := by decide +kernel
theorem dX8_ask_11 : decode cX8_ask 11 = .ok (.iload_n 3, 1) := by decide +kernel
theorem dX8_ask_12 : decode cX8_ask 12 = .ok (.goto 13, 3) := by decide +kernel
theorem dX8_ask_25 : decode cX8_ask 25 = .ok (.ireturn, 1) := by decide +kernel
theorem dX8_leaves_0 : decode cX8_leaves 0 = .ok (.aload_n 0, 1) := by decide +kernel
theorem dX8_leaves_1 : decode cX8_leaves 1 = .ok (.iload_n 1, 1) := by decide +kernel
theorem dX8_leaves_2 : decode cX8_leaves 2 = .ok (.iload_n 2, 1) := by decide +kernel
theorem dX8_leaves_3 : decode cX8_leaves 3 = .ok (.invokevirtual 413, 3) := by decide +kernel
theorem dX8_leaves_6 : decode cX8_leaves 6 = .ok (.istore_n 3, 1) := by decide +kernel
theorem dX8_leaves_7 : decode cX8_leaves 7 = .ok (.iload_n 3, 1) := by decide +kernel
theorem dX8_leaves_8 : decode cX8_leaves 8 = .ok (.ifCond .ge 5, 3) := by decide +kernel
theorem dX8_leaves_11 : decode cX8_leaves 11 = .ok (.iload_n 3, 1) := by decide +kernel
theorem dX8_leaves_12 : decode cX8_leaves 12 = .ok (.ireturn, 1) := by decide +kernel
theorem dX8_laws_0 : decode cX8_laws 0 = .ok (.aload_n 0, 1) := by decide +kernel
theorem dX8_laws_1 : decode cX8_laws 1 = .ok (.iload_n 1, 1) := by decide +kernel
theorem dX8_laws_2 : decode cX8_laws 2 = .ok (.invokevirtual 410, 3) := by decide +kernel
theorem dX8_laws_5 : decode cX8_laws 5 = .ok (.istore_n 2, 1) := by decide +kernel
theorem dX8_laws_6 : decode cX8_laws 6 = .ok (.iload_n 2, 1) := by decide +kernel
theorem dX8_laws_7 : decode cX8_laws 7 = .ok (.ifCond .ge 5, 3) := by decide +kernel
theorem dX8_laws_10 : decode cX8_laws 10 = .ok (.iload_n 2, 1) := by decide +kernel
theorem dX8_laws_11 : decode cX8_laws 11 = .ok (.ireturn, 1) := by decide +kernel
theorem dX8_by_0 : decode cX8_by 0 = .ok (.aload_n 0, 1) := by decide +kernel
theorem dX8_by_1 : decode cX8_by 1 = .ok (.invokevirtual 292, 3) := by decide +kernel
theorem dX8_by_4 : decode cX8_by 4 = .ok (.ifCond .eq 23, 3) := by decide +kernel
theorem dX8_by_27 : decode cX8_by 27 = .ok (.bipush (-2), 2) := by decide +kernel
theorem dX8_by_29 : decode cX8_by 29 = .ok (.ireturn, 1) := by decide +kernel
theorem dX8_law_0 : decode cX8_law 0 = .ok (.aload_n 0, 1) := by decide +kernel
theorem dX8_law_1 : decode cX8_law 1 = .ok (.invokevirtual 292, 3) := by decide +kernel
theorem dX8_law_4 : decode cX8_law 4 = .ok (.ifCond .ne 6, 3) := by decide +kernel
theorem dX8_law_7 : decode cX8_law 7 = .ok (.bipush (-2), 2) := by decide +kernel
theorem dX8_law_9 : decode cX8_law 9 = .ok (.ireturn, 1) := by decide +kernel
theorem dX8_worth_0 : decode cX8_worth 0 = .ok (.aload_n 0, 1) := by decide +kernel
theorem dX8_worth_1 : decode cX8_worth 1 = .ok (.invokevirtual 286, 3) := by decide +kernel
theorem dX8_worth_4 : decode cX8_worth 4 = .ok (.aload_n 0, 1) := by decide +kernel
theorem dX8_worth_5 : decode cX8_worth 5 = .ok (.invokevirtual 102, 3) := by decide +kernel
theorem dX8_worth_8 : decode cX8_worth 8 = .ok (.ifCond .eq 25, 3) := by decide +kernel
theorem dX8_worth_33 : decode cX8_worth 33 = .ok (.bipush (-2), 2) := by decide +kernel
theorem dX8_worth_35 : decode cX8_worth 35 = .ok (.ireturn, 1) := by decide +kernel
theorem dX8_share_0 : decode cX8_share 0 = .ok (.aload_n 0, 1) := by decide +kernel
theorem dX8_share_1 : decode cX8_share 1 = .ok (.invokevirtual 286, 3) := by decide +kernel
theorem dX8_share_4 : decode cX8_share 4 = .ok (.aload_n 0, 1) := by decide +kernel
theorem dX8_share_5 : decode cX8_share 5 = .ok (.iload_n 1, 1) := by decide +kernel
theorem dX8_share_6 : decode cX8_share 6 = .ok (.i2l, 1) := by decide +kernel
theorem dX8_share_7 : decode cX8_share 7 = .ok (.invokevirtual 112, 3) := by decide +kernel
theorem dX8_share_10 : decode cX8_share 10 = .ok (.ifCond .eq 13, 3) := by decide +kernel
theorem dX8_share_23 : decode cX8_share 23 = .ok (.sipush (-1000), 3) := by decide +kernel
theorem dX8_share_26 : decode cX8_share 26 = .ok (.ireturn, 1) := by decide +kernel
theorem dX8_rests_0 : decode cX8_rests 0 = .ok (.aload_n 0, 1) := by decide +kernel
theorem dX8_rests_1 : decode cX8_rests 1 = .ok (.iload_n 1, 1) := by decide +kernel
theorem dX8_rests_2 : decode cX8_rests 2 = .ok (.iload_n 2, 1) := by decide +kernel
theorem dX8_rests_3 : decode cX8_rests 3 = .ok (.invokevirtual 346, 3) := by decide +kernel
theorem dX8_rests_6 : decode cX8_rests 6 = .ok (.ifCond .ne 6, 3) := by decide +kernel
theorem dX8_rests_9 : decode cX8_rests 9 = .ok (.bipush (-2), 2) := by decide +kernel
theorem dX8_rests_11 : decode cX8_rests 11 = .ok (.ireturn, 1) := by decide +kernel
theorem dX8_gets_0 : decode cX8_gets 0 = .ok (.aload_n 0, 1) := by decide +kernel
theorem dX8_gets_1 : decode cX8_gets 1 = .ok (.iload_n 1, 1) := by decide +kernel
theorem dX8_gets_2 : decode cX8_gets 2 = .ok (.iload_n 2, 1) := by decide +kernel
theorem dX8_gets_3 : decode cX8_gets 3 = .ok (.invokevirtual 346, 3) := by decide +kernel
theorem dX8_gets_6 : decode cX8_gets 6 = .ok (.ifCond .eq 37, 3) := by decide +kernel
theorem dX8_gets_43 : decode cX8_gets 43 = .ok (.sipush (-1000), 3) := by decide +kernel
theorem dX8_gets_46 : decode cX8_gets 46 = .ok (.ireturn, 1) := by decide +kernel
theorem dX8_isFog_0 : decode cX8_isFog 0 = .ok (.aload_n 0, 1) := by decide +kernel
theorem dX8_isFog_1 : decode cX8_isFog 1 = .ok (.iload_n 1, 1) := by decide +kernel
theorem dX8_isFog_2 : decode cX8_isFog 2 = .ok (.i2l, 1) := by decide +kernel
theorem dX8_isFog_3 : decode cX8_isFog 3 = .ok (.invokevirtual 311, 3) := by decide +kernel
theorem dX8_isFog_6 : decode cX8_isFog 6 = .ok (.ifCond .eq 23, 3) := by decide +kernel
theorem dX8_isFog_29 : decode cX8_isFog 29 = .ok (.iconst 0, 1) := by decide +kernel
theorem dX8_isFog_30 : decode cX8_isFog 30 = .ok (.ireturn, 1) := by decide +kernel
theorem dX8_chance_0 : decode cX8_chance 0 = .ok (.aload_n 0, 1) := by decide +kernel
theorem dX8_chance_1 : decode cX8_chance 1 = .ok (.iload_n 1, 1) := by decide +kernel
theorem dX8_chance_2 : decode cX8_chance 2 = .ok (.i2l, 1) := by decide +kernel
theorem dX8_chance_3 : decode cX8_chance 3 = .ok (.invokevirtual 254, 3) := by decide +kernel
theorem dX8_chance_6 : decode cX8_chance 6 = .ok (.ifCond .eq 12, 3) := by decide +kernel
theorem dX8_chance_18 : decode cX8_chance 18 = .ok (.ldc2_w 471, 3) := by decide +kernel
theorem dX8_chance_21 : decode cX8_chance 21 = .ok (.lreturn, 1) := by decide +kernel
theorem dX8_mean_0 : decode cX8_mean 0 = .ok (.aload_n 0, 1) := by decide +kernel
theorem dX8_mean_1 : decode cX8_mean 1 = .ok (.iload_n 1, 1) := by decide +kernel
theorem dX8_mean_2 : decode cX8_mean 2 = .ok (.iload_n 2, 1) := by decide +kernel
theorem dX8_mean_3 : decode cX8_mean 3 = .ok (.invokevirtual 468, 3) := by decide +kernel
theorem dX8_mean_6 : decode cX8_mean 6 = .ok (.ifCond .ne 7, 3) := by decide +kernel
theorem dX8_mean_9 : decode cX8_mean 9 = .ok (.ldc2_w 471, 3) := by decide +kernel
theorem dX8_mean_12 : decode cX8_mean 12 = .ok (.lreturn, 1) := by decide +kernel
theorem dX8_twists_0 : decode cX8_twists 0 = .ok (.aload_n 0, 1) := by decide +kernel
theorem dX8_twists_1 : decode cX8_twists 1 = .ok (.iload_n 1, 1) := by decide +kernel
theorem dX8_twists_2 : decode cX8_twists 2 = .ok (.i2l, 1) := by decide +kernel
theorem dX8_twists_3 : decode cX8_twists 3 = .ok (.invokevirtual 112, 3) := by decide +kernel
theorem dX8_twists_6 : decode cX8_twists 6 = .ok (.ifCond .eq 12, 3) := by decide +kernel
theorem dX8_twists_18 : decode cX8_twists 18 = .ok (.bipush (-2), 2) := by decide +kernel
theorem dX8_twists_20 : decode cX8_twists 20 = .ok (.ireturn, 1) := by decide +kernel
theorem dX8_holds_0 : decode cX8_holds 0 = .ok (.aload_n 0, 1) := by decide +kernel
theorem dX8_holds_1 : decode cX8_holds 1 = .ok (.iload_n 1, 1) := by decide +kernel
theorem dX8_holds_2 : decode cX8_holds 2 = .ok (.i2l, 1) := by decide +kernel
theorem dX8_holds_3 : decode cX8_holds 3 = .ok (.invokevirtual 254, 3) := by decide +kernel
theorem dX8_holds_6 : decode cX8_holds 6 = .ok (.ifCond .eq 12, 3) := by decide +kernel
theorem dX8_holds_18 : decode cX8_holds 18 = .ok (.bipush (-2), 2) := by decide +kernel
theorem dX8_holds_20 : decode cX8_holds 20 = .ok (.ireturn, 1) := by decide +kernel
theorem dX8_undo_0 : decode cX8_undo 0 = .ok (.aload_n 0, 1) := by decide +kernel
theorem dX8_undo_1 : decode cX8_undo 1 = .ok (.invokevirtual 102, 3) := by decide +kernel
theorem dX8_undo_4 : decode cX8_undo 4 = .ok (.ifCond .ne 6, 3) := by decide +kernel
theorem dX8_undo_7 : decode cX8_undo 7 = .ok (.bipush (-2), 2) := by decide +kernel
theorem dX8_undo_9 : decode cX8_undo 9 = .ok (.ireturn, 1) := by decide +kernel
theorem dX8_anew_0 : decode cX8_anew 0 = .ok (.aload_n 0, 1) := by decide +kernel
theorem dX8_anew_1 : decode cX8_anew 1 = .ok (.invokevirtual 102, 3) := by decide +kernel
theorem dX8_anew_4 : decode cX8_anew 4 = .ok (.ifCond .ne 6, 3) := by decide +kernel
theorem dX8_anew_7 : decode cX8_anew 7 = .ok (.bipush (-2), 2) := by decide +kernel
theorem dX8_anew_9 : decode cX8_anew 9 = .ok (.ireturn, 1) := by decide +kernel
theorem dX8_isSeed_0 : decode cX8_isSeed 0 = .ok (.iload_n 0, 1) := by decide +kernel
theorem dX8_isSeed_1 : decode cX8_isSeed 1 = .ok (.i2l, 1) := by decide +kernel
theorem dX8_isSeed_2 : decode cX8_isSeed 2 = .ok (.lconst 0, 1) := by decide +kernel
theorem dX8_isSeed_3 : decode cX8_isSeed 3 = .ok (.ldc2_w 487, 3) := by decide +kernel
theorem dX8_isSeed_6 : decode cX8_isSeed 6 = .ok (.invokestatic 94, 3) := by decide +kernel
theorem dX8_isSeed_9 : decode cX8_isSeed 9 = .ok (.ireturn, 1) := by decide +kernel
theorem dX8_drawn_0 : decode cX8_drawn 0 = .ok (.aload_n 0, 1) := by decide +kernel
theorem dX8_drawn_1 : decode cX8_drawn 1 = .ok (.invokevirtual 102, 3) := by decide +kernel
theorem dX8_drawn_4 : decode cX8_drawn 4 = .ok (.ifCond .eq 20, 3) := by decide +kernel
theorem dX8_drawn_24 : decode cX8_drawn 24 = .ok (.bipush (-2), 2) := by decide +kernel
theorem dX8_drawn_26 : decode cX8_drawn 26 = .ok (.ireturn, 1) := by decide +kernel
theorem dX8_luck_0 : decode cX8_luck 0 = .ok (.iload_n 1, 1) := by decide +kernel
theorem dX8_luck_1 : decode cX8_luck 1 = .ok (.invokestatic 489, 3) := by decide +kernel
theorem dX8_luck_4 : decode cX8_luck 4 = .ok (.ifCond .eq 24, 3) := by decide +kernel
theorem dX8_luck_7 : decode cX8_luck 7 = .ok (.iload_n 2, 1) := by decide +kernel
theorem dX8_luck_8 : decode cX8_luck 8 = .ok (.i2l, 1) := by decide +kernel
theorem dX8_luck_9 : decode cX8_luck 9 = .ok (.lconst 1, 1) := by decide +kernel
theorem dX8_luck_10 : decode cX8_luck 10 = .ok (.ldc2_w 385, 3) := by decide +kernel
theorem dX8_luck_13 : decode cX8_luck 13 = .ok (.invokestatic 94, 3) := by decide +kernel
theorem dX8_luck_16 : decode cX8_luck 16 = .ok (.ifCond .eq 12, 3) := by decide +kernel
theorem dX8_luck_19 : decode cX8_luck 19 = .ok (.aload_n 0, 1) := by decide +kernel
theorem dX8_luck_20 : decode cX8_luck 20 = .ok (.iload_n 3, 1) := by decide +kernel
theorem dX8_luck_21 : decode cX8_luck 21 = .ok (.i2l, 1) := by decide +kernel
theorem dX8_luck_22 : decode cX8_luck 22 = .ok (.invokevirtual 254, 3) := by decide +kernel
theorem dX8_luck_25 : decode cX8_luck 25 = .ok (.ifCond .ne 6, 3) := by decide +kernel
theorem dX8_luck_28 : decode cX8_luck 28 = .ok (.bipush (-2), 2) := by decide +kernel
theorem dX8_luck_30 : decode cX8_luck 30 = .ok (.ireturn, 1) := by decide +kernel
theorem dX8_rate_0 : decode cX8_rate 0 = .ok (.aload_n 0, 1) := by decide +kernel
theorem dX8_rate_1 : decode cX8_rate 1 = .ok (.iload_n 1, 1) := by decide +kernel
theorem dX8_rate_2 : decode cX8_rate 2 = .ok (.i2l, 1) := by decide +kernel
theorem dX8_rate_3 : decode cX8_rate 3 = .ok (.invokevirtual 118, 3) := by decide +kernel
theorem dX8_rate_6 : decode cX8_rate 6 = .ok (.ifCond .eq 15, 3) := by decide +kernel
theorem dX8_rate_21 : decode cX8_rate 21 = .ok (.bipush (-2), 2) := by decide +kernel
theorem dX8_rate_23 : decode cX8_rate 23 = .ok (.ireturn, 1) := by decide +kernel
theorem dX8_count_0 : decode cX8_count 0 = .ok (.iload_n 1, 1) := by decide +kernel
theorem dX8_count_1 : decode cX8_count 1 = .ok (.i2l, 1) := by decide +kernel
theorem dX8_count_2 : decode cX8_count 2 = .ok (.lconst 0, 1) := by decide +kernel
theorem dX8_count_3 : decode cX8_count 3 = .ok (.ldc2_w 496, 3) := by decide +kernel
theorem dX8_count_6 : decode cX8_count 6 = .ok (.invokestatic 94, 3) := by decide +kernel
theorem dX8_count_9 : decode cX8_count 9 = .ok (.ifCond .eq 10, 3) := by decide +kernel
theorem dX8_count_12 : decode cX8_count 12 = .ok (.aload_n 0, 1) := by decide +kernel
theorem dX8_count_13 : decode cX8_count 13 = .ok (.getfield 9, 3) := by decide +kernel
theorem dX8_count_16 : decode cX8_count 16 = .ok (.iload_n 1, 1) := by decide +kernel
theorem dX8_count_17 : decode cX8_count 17 = .ok (.iaload, 1) := by decide +kernel
theorem dX8_count_18 : decode cX8_count 18 = .ok (.ireturn, 1) := by decide +kernel
theorem dX8_count_19 : decode cX8_count 19 = .ok (.iload_n 1, 1) := by decide +kernel
theorem dX8_count_20 : decode cX8_count 20 = .ok (.bipush 10, 2) := by decide +kernel
theorem dX8_count_22 : decode cX8_count 22 = .ok (.if_icmp .ne 8, 3) := by decide +kernel
theorem dX8_count_25 : decode cX8_count 25 = .ok (.aload_n 0, 1) := by decide +kernel
theorem dX8_count_26 : decode cX8_count 26 = .ok (.getfield 121, 3) := by decide +kernel
theorem dX8_count_29 : decode cX8_count 29 = .ok (.ireturn, 1) := by decide +kernel
theorem dX8_count_30 : decode cX8_count 30 = .ok (.iload_n 1, 1) := by decide +kernel
theorem dX8_count_31 : decode cX8_count 31 = .ok (.bipush 11, 2) := by decide +kernel
theorem dX8_count_33 : decode cX8_count 33 = .ok (.if_icmp .eq 5, 3) := by decide +kernel
theorem dX8_count_36 : decode cX8_count 36 = .ok (.iconst (-1), 1) := by decide +kernel
theorem dX8_count_37 : decode cX8_count 37 = .ok (.ireturn, 1) := by decide +kernel
theorem dX8_count_38 : decode cX8_count 38 = .ok (.iconst 0, 1) := by decide +kernel
theorem dX8_count_39 : decode cX8_count 39 = .ok (.istore_n 2, 1) := by decide +kernel
theorem dX8_count_40 : decode cX8_count 40 = .ok (.iconst 0, 1) := by decide +kernel
theorem dX8_count_41 : decode cX8_count 41 = .ok (.istore_n 3, 1) := by decide +kernel
theorem dX8_count_42 : decode cX8_count 42 = .ok (.iload_n 3, 1) := by decide +kernel
theorem dX8_count_43 : decode cX8_count 43 = .ok (.iconst 4, 1) := by decide +kernel
theorem dX8_count_44 : decode cX8_count 44 = .ok (.if_icmp .ge 27, 3) := by decide +kernel
theorem dX8_count_47 : decode cX8_count 47 = .ok (.iload_n 2, 1) := by decide +kernel
theorem dX8_count_48 : decode cX8_count 48 = .ok (.aload_n 0, 1) := by decide +kernel
theorem dX8_count_49 : decode cX8_count 49 = .ok (.getfield 76, 3) := by decide +kernel
theorem dX8_count_52 : decode cX8_count 52 = .ok (.iload_n 3, 1) := by decide +kernel
theorem dX8_count_53 : decode cX8_count 53 = .ok (.iaload, 1) := by decide +kernel
theorem dX8_count_54 : decode cX8_count 54 = .ok (.iconst (-1), 1) := by decide +kernel
theorem dX8_count_55 : decode cX8_count 55 = .ok (.if_icmp .ne 7, 3) := by decide +kernel
theorem dX8_count_58 : decode cX8_count 58 = .ok (.iconst 0, 1) := by decide +kernel
theorem dX8_count_59 : decode cX8_count 59 = .ok (.goto 4, 3) := by decide +kernel
theorem dX8_count_63 : decode cX8_count 63 = .ok (.iadd, 1) := by decide +kernel
theorem dX8_count_64 : decode cX8_count 64 = .ok (.istore_n 2, 1) := by decide +kernel
theorem dX8_count_65 : decode cX8_count 65 = .ok (.iinc 3 1, 3) := by decide +kernel
theorem dX8_count_68 : decode cX8_count 68 = .ok (.goto (-26), 3) := by decide +kernel
theorem dX8_count_71 : decode cX8_count 71 = .ok (.iload_n 2, 1) := by decide +kernel
theorem dX8_count_72 : decode cX8_count 72 = .ok (.ireturn, 1) := by decide +kernel
theorem dX8_isSlot_0 : decode cX8_isSlot 0 = .ok (.iload_n 0, 1) := by decide +kernel
theorem dX8_isSlot_1 : decode cX8_isSlot 1 = .ok (.i2l, 1) := by decide +kernel
theorem dX8_isSlot_2 : decode cX8_isSlot 2 = .ok (.lconst 0, 1) := by decide +kernel
theorem dX8_isSlot_3 : decode cX8_isSlot 3 = .ok (.ldc2_w 428, 3) := by decide +kernel
theorem dX8_isSlot_6 : decode cX8_isSlot 6 = .ok (.invokestatic 94, 3) := by decide +kernel
theorem dX8_isSlot_9 : decode cX8_isSlot 9 = .ok (.ireturn, 1) := by decide +kernel
theorem dX8_row_0 : decode cX8_row 0 = .ok (.iload_n 1, 1) := by decide +kernel
theorem dX8_row_1 : decode cX8_row 1 = .ok (.invokestatic 394, 3) := by decide +kernel
theorem dX8_row_4 : decode cX8_row 4 = .ok (.ifCond .eq 21, 3) := by decide +kernel
theorem dX8_row_7 : decode cX8_row 7 = .ok (.iload_n 2, 1) := by decide +kernel
theorem dX8_row_8 : decode cX8_row 8 = .ok (.i2l, 1) := by decide +kernel
theorem dX8_row_9 : decode cX8_row 9 = .ok (.lconst 0, 1) := by decide +kernel
theorem dX8_row_10 : decode cX8_row 10 = .ok (.ldc2_w 428, 3) := by decide +kernel
theorem dX8_row_13 : decode cX8_row 13 = .ok (.invokestatic 94, 3) := by decide +kernel
theorem dX8_row_16 : decode cX8_row 16 = .ok (.ifCond .eq 9, 3) := by decide +kernel
theorem dX8_row_19 : decode cX8_row 19 = .ok (.iload_n 3, 1) := by decide +kernel
theorem dX8_row_20 : decode cX8_row 20 = .ok (.bipush 60, 2) := by decide +kernel
theorem dX8_row_22 : decode cX8_row 22 = .ok (.if_icmp .le 6, 3) := by decide +kernel
theorem dX8_row_25 : decode cX8_row 25 = .ok (.bipush (-2), 2) := by decide +kernel
theorem dX8_row_27 : decode cX8_row 27 = .ok (.ireturn, 1) := by decide +kernel
theorem dX8_row_28 : decode cX8_row 28 = .ok (.iload_n 3, 1) := by decide +kernel
theorem dX8_row_29 : decode cX8_row 29 = .ok (.ifCond .ge 6, 3) := by decide +kernel
theorem dX8_row_32 : decode cX8_row 32 = .ok (.bipush (-3), 2) := by decide +kernel
theorem dX8_row_34 : decode cX8_row 34 = .ok (.ireturn, 1) := by decide +kernel
theorem dX8_row_35 : decode cX8_row 35 = .ok (.aload_n 0, 1) := by decide +kernel
theorem dX8_row_36 : decode cX8_row 36 = .ok (.getfield 76, 3) := by decide +kernel
theorem dX8_row_39 : decode cX8_row 39 = .ok (.iload_n 1, 1) := by decide +kernel
theorem dX8_row_40 : decode cX8_row 40 = .ok (.iload_n 3, 1) := by decide +kernel
theorem dX8_row_41 : decode cX8_row 41 = .ok (.iastore, 1) := by decide +kernel
theorem dX8_row_42 : decode cX8_row 42 = .ok (.aload_n 0, 1) := by decide +kernel
theorem dX8_row_43 : decode cX8_row 43 = .ok (.getfield 79, 3) := by decide +kernel
theorem dX8_row_46 : decode cX8_row 46 = .ok (.iload_n 1, 1) := by decide +kernel
theorem dX8_row_47 : decode cX8_row 47 = .ok (.iload_n 2, 1) := by decide +kernel
theorem dX8_row_48 : decode cX8_row 48 = .ok (.iastore, 1) := by decide +kernel
theorem dX8_row_49 : decode cX8_row 49 = .ok (.iconst 0, 1) := by decide +kernel
theorem dX8_row_50 : decode cX8_row 50 = .ok (.istore 4, 2) := by decide +kernel
theorem dX8_row_52 : decode cX8_row 52 = .ok (.iload 4, 2) := by decide +kernel
theorem dX8_row_54 : decode cX8_row 54 = .ok (.bipush 60, 2) := by decide +kernel
theorem dX8_row_56 : decode cX8_row 56 = .ok (.if_icmp .ge 22, 3) := by decide +kernel
theorem dX8_row_59 : decode cX8_row 59 = .ok (.aload_n 0, 1) := by decide +kernel
theorem dX8_row_60 : decode cX8_row 60 = .ok (.getfield 82, 3) := by decide +kernel
theorem dX8_row_63 : decode cX8_row 63 = .ok (.bipush 60, 2) := by decide +kernel
theorem dX8_row_65 : decode cX8_row 65 = .ok (.iload_n 1, 1) := by decide +kernel
theorem dX8_row_66 : decode cX8_row 66 = .ok (.imul, 1) := by decide +kernel
theorem dX8_row_67 : decode cX8_row 67 = .ok (.iload 4, 2) := by decide +kernel
theorem dX8_row_69 : decode cX8_row 69 = .ok (.iadd, 1) := by decide +kernel
theorem dX8_row_70 : decode cX8_row 70 = .ok (.lconst 0, 1) := by decide +kernel
theorem dX8_row_71 : decode cX8_row 71 = .ok (.lastore, 1) := by decide +kernel
theorem dX8_row_72 : decode cX8_row 72 = .ok (.iinc 4 1, 3) := by decide +kernel
theorem dX8_row_75 : decode cX8_row 75 = .ok (.goto (-23), 3) := by decide +kernel
theorem dX8_row_78 : decode cX8_row 78 = .ok (.iconst 0, 1) := by decide +kernel
theorem dX8_row_79 : decode cX8_row 79 = .ok (.ireturn, 1) := by decide +kernel
theorem dX8_write_0 : decode cX8_write 0 = .ok (.iload_n 1, 1) := by decide +kernel
theorem dX8_write_1 : decode cX8_write 1 = .ok (.invokestatic 394, 3) := by decide +kernel
theorem dX8_write_4 : decode cX8_write 4 = .ok (.ifCond .ne 6, 3) := by decide +kernel
theorem dX8_write_7 : decode cX8_write 7 = .ok (.bipush (-2), 2) := by decide +kernel
theorem dX8_write_9 : decode cX8_write 9 = .ok (.ireturn, 1) := by decide +kernel
theorem dX8_write_10 : decode cX8_write 10 = .ok (.aload_n 0, 1) := by decide +kernel
theorem dX8_write_11 : decode cX8_write 11 = .ok (.getfield 76, 3) := by decide +kernel
theorem dX8_write_14 : decode cX8_write 14 = .ok (.iload_n 1, 1) := by decide +kernel
theorem dX8_write_15 : decode cX8_write 15 = .ok (.iaload, 1) := by decide +kernel
theorem dX8_write_16 : decode cX8_write 16 = .ok (.iconst (-1), 1) := by decide +kernel
theorem dX8_write_17 : decode cX8_write 17 = .ok (.if_icmp .ne 6, 3) := by decide +kernel
theorem dX8_write_20 : decode cX8_write 20 = .ok (.bipush (-6), 2) := by decide +kernel
theorem dX8_write_22 : decode cX8_write 22 = .ok (.ireturn, 1) := by decide +kernel
theorem dX8_paste_0 : decode cX8_paste 0 = .ok (.iload_n 1, 1) := by decide +kernel
theorem dX8_paste_1 : decode cX8_paste 1 = .ok (.invokestatic 394, 3) := by decide +kernel
theorem dX8_paste_4 : decode cX8_paste 4 = .ok (.ifCond .eq 10, 3) := by decide +kernel
theorem dX8_paste_7 : decode cX8_paste 7 = .ok (.iload_n 3, 1) := by decide +kernel
theorem dX8_paste_8 : decode cX8_paste 8 = .ok (.invokestatic 394, 3) := by decide +kernel
theorem dX8_paste_11 : decode cX8_paste 11 = .ok (.ifCond .ne 6, 3) := by decide +kernel
theorem dX8_paste_14 : decode cX8_paste 14 = .ok (.bipush (-2), 2) := by decide +kernel
theorem dX8_paste_16 : decode cX8_paste 16 = .ok (.ireturn, 1) := by decide +kernel
theorem dX8_paste_17 : decode cX8_paste 17 = .ok (.aload_n 0, 1) := by decide +kernel
theorem dX8_paste_18 : decode cX8_paste 18 = .ok (.getfield 76, 3) := by decide +kernel
theorem dX8_paste_21 : decode cX8_paste 21 = .ok (.iload_n 1, 1) := by decide +kernel
theorem dX8_paste_22 : decode cX8_paste 22 = .ok (.iaload, 1) := by decide +kernel
theorem dX8_paste_23 : decode cX8_paste 23 = .ok (.iconst (-1), 1) := by decide +kernel
theorem dX8_paste_24 : decode cX8_paste 24 = .ok (.if_icmp .eq 13, 3) := by decide +kernel
theorem dX8_paste_37 : decode cX8_paste 37 = .ok (.bipush (-6), 2) := by decide +kernel
theorem dX8_paste_39 : decode cX8_paste 39 = .ok (.ireturn, 1) := by decide +kernel
theorem wd235 : Cond.constantLong RX8 428 (3) ∈ tblG := gw8 190 (by decide +kernel) (by decide +kernel)
theorem wd236 : Cond.methodLink RX8 94 yX8_in ∈ tblG := gw6 164 (by decide +kernel) (by decide +kernel)
theorem wd237 : Cond.static yX8_in ∈ tblG := gw6 165 (by decide +kernel) (by decide +kernel)
theorem wd238 : Cond.initialized RX8 ∈ tblG := gw1 8 (by decide +kernel) (by decide +kernel)
theorem wd239 : Cond.code yX8_in cX8_in 6 (some .boolean) ∈ tblG := gw6 166 (by decide +kernel) (by decide +kernel)
theorem pl_X8_in : Plain yX8_in 3 := ⟨by decide, by decide, by decide +kernel⟩
theorem lk_X8_94 : LkS RX8 94 yX8_in cX8_in 6 (some .boolean) 3 := ⟨wd236, wd237, wd238, wd239, pl_X8_in⟩
theorem wd240 : Cond.constantLong RX8 487 (2000000000) ∈ tblG := gw9 81 (by decide +kernel) (by decide +kernel)
theorem wd241 : Cond.methodLink RX8 118 yX8_isInn ∈ tblG := gw7 40 (by decide +kernel) (by decide +kernel)
theorem wd242 : Cond.instanceMethod yX8_isInn ∈ tblG := gw7 42 (by decide +kernel) (by decide +kernel)
theorem wd243 : Cond.selects RX8 yX8_isInn yX8_isInn ∈ tblG := gw0 64 (by decide +kernel) (by decide +kernel)
theorem wd244 : Cond.code yX8_isInn cX8_isInn 3 (some .boolean) ∈ tblG := gw7 43 (by decide +kernel) (by decide +kernel)
theorem pl_X8_isInn : Plain yX8_isInn 1 := ⟨by decide, by decide, by decide +kernel⟩
theorem lk_X8_118 : LkV RX8 118 8 yX8_isInn cX8_isInn 3 (some .boolean) 1 := ⟨⟨TX8, 41, rfl⟩, wd241, wd242, wd243, wd238, wd244, pl_X8_isInn⟩
theorem layX8 : ∀ k, k < 41 → u_lay RX8 TX8 k ∈ tblG := fun k hk => match k, hk with
  | 0, _ => gw6 75 (by decide +kernel) (by decide +kernel)
  | 1, _ => gw6 77 (by decide +kernel) (by decide +kernel)
  | 2, _ => gw6 79 (by decide +kernel) (by decide +kernel)
  | 3, _ => gw6 81 (by decide +kernel) (by decide +kernel)
  | 4, _ => gw6 83 (by decide +kernel) (by decide +kernel)
  | 5, _ => gw6 85 (by decide +kernel) (by decide +kernel)
  | 6, _ => gw6 87 (by decide +kernel) (by decide +kernel)
  | 7, _ => gw6 89 (by decide +kernel) (by decide +kernel)
  | 8, _ => gw6 91 (by decide +kernel) (by decide +kernel)
  | 9, _ => gw6 93 (by decide +kernel) (by decide +kernel)
  | 10, _ => gw6 95 (by decide +kernel) (by decide +kernel)
  | 11, _ => gw6 97 (by decide +kernel) (by decide +kernel)
  | 12, _ => gw6 99 (by decide +kernel) (by decide +kernel)
  | 13, _ => gw6 101 (by decide +kernel) (by decide +kernel)
  | 14, _ => gw6 103 (by decide +kernel) (by decide +kernel)
  | 15, _ => gw6 105 (by decide +kernel) (by decide +kernel)
  | 16, _ => gw6 107 (by decide +kernel) (by decide +kernel)
  | 17, _ => gw6 109 (by decide +kernel) (by decide +kernel)
  | 18, _ => gw6 111 (by decide +kernel) (by decide +kernel)
  | 19, _ => gw6 113 (by decide +kernel) (by decide +kernel)
  | 20, _ => gw6 115 (by decide +kernel) (by decide +kernel)
  | 21, _ => gw6 117 (by decide +kernel) (by decide +kernel)
  | 22, _ => gw6 119 (by decide +kernel) (by decide +kernel)
  | 23, _ => gw6 121 (by decide +kernel) (by decide +kernel)
  | 24, _ => gw6 123 (by decide +kernel) (by decide +kernel)
  | 25, _ => gw6 125 (by decide +kernel) (by decide +kernel)
  | 26, _ => gw6 127 (by decide +kernel) (by decide +kernel)
  | 27, _ => gw6 129 (by decide +kernel) (by decide +kernel)
  | 28, _ => gw6 131 (by decide +kernel) (by decide +kernel)
  | 29, _ => gw6 133 (by decide +kernel) (by decide +kernel)
  | 30, _ => gw6 135 (by decide +kernel) (by decide +kernel)
  | 31, _ => gw6 137 (by decide +kernel) (by decide +kernel)
  | 32, _ => gw6 139 (by decide +kernel) (by decide +kernel)
  | 33, _ => gw6 141 (by decide +kernel) (by decide +kernel)
  | 34, _ => gw6 143 (by decide +kernel) (by decide +kernel)
  | 35, _ => gw6 145 (by decide +kernel) (by decide +kernel)
  | 36, _ => gw6 147 (by decide +kernel) (by decide +kernel)
  | 37, _ => gw6 149 (by decide +kernel) (by decide +kernel)
  | 38, _ => gw6 151 (by decide +kernel) (by decide +kernel)
  | 39, _ => gw6 153 (by decide +kernel) (by decide +kernel)
  | 40, _ => gw6 155 (by decide +kernel) (by decide +kernel)
  | k + 41, hk => absurd hk (by omega)
theorem clX8 : CLk 8 RX8 TX8 41 tyX8 := ⟨rfl, fun w hw => by
  obtain ⟨k, hk, rfl⟩ := List.mem_map.mp hw
  exact layX8 k (List.mem_range.mp hk), tyX8_ok, nmX8⟩
theorem wd245 : Cond.fieldLink RX8 9 RX8 "world" "[I" ∈ tblG := gw6 35 (by decide +kernel) (by decide +kernel)
theorem fk_X8_9 : FLk RX8 9 8 1 (.array .int) true := ⟨RX8, TX8, 41, tyX8, clX8, by decide, rfl, rfl, rfl, Or.inl wd245⟩
theorem wd246 : Cond.methodLink RX8 112 yX8_isPost ∈ tblG := gw7 48 (by decide +kernel) (by decide +kernel)
theorem wd247 : Cond.instanceMethod yX8_isPost ∈ tblG := gw7 50 (by decide +kernel) (by decide +kernel)
theorem wd248 : Cond.selects RX8 yX8_isPost yX8_isPost ∈ tblG := gw0 65 (by decide +kernel) (by decide +kernel)
theorem wd249 : Cond.code yX8_isPost cX8_isPost 3 (some .boolean) ∈ tblG := gw7 51 (by decide +kernel) (by decide +kernel)
theorem pl_X8_isPost : Plain yX8_isPost 1 := ⟨by decide, by decide, by decide +kernel⟩
theorem lk_X8_112 : LkV RX8 112 8 yX8_isPost cX8_isPost 3 (some .boolean) 1 := ⟨⟨TX8, 41, rfl⟩, wd246, wd247, wd248, wd238, wd249, pl_X8_isPost⟩
theorem wd250 : Cond.methodLink RX8 98 yX8_posts ∈ tblG := gw7 52 (by decide +kernel) (by decide +kernel)
theorem wd251 : Cond.instanceMethod yX8_posts ∈ tblG := gw7 54 (by decide +kernel) (by decide +kernel)
theorem wd252 : Cond.selects RX8 yX8_posts yX8_posts ∈ tblG := gw0 66 (by decide +kernel) (by decide +kernel)
theorem wd253 : Cond.code yX8_posts cX8_posts 1 (some .int) ∈ tblG := gw7 55 (by decide +kernel) (by decide +kernel)
theorem pl_X8_posts : Plain yX8_posts 0 := ⟨by decide, by decide, by decide +kernel⟩
theorem lk_X8_98 : LkV RX8 98 8 yX8_posts cX8_posts 1 (some .int) 0 := ⟨⟨TX8, 41, rfl⟩, wd250, wd251, wd252, wd238, wd253, pl_X8_posts⟩
theorem wd254 : Cond.methodLink RX8 254 yX8_isWalker ∈ tblG := gw7 80 (by decide +kernel) (by decide +kernel)
theorem wd255 : Cond.instanceMethod yX8_isWalker ∈ tblG := gw7 82 (by decide +kernel) (by decide +kernel)
theorem wd256 : Cond.selects RX8 yX8_isWalker yX8_isWalker ∈ tblG := gw0 70 (by decide +kernel) (by decide +kernel)
theorem wd257 : Cond.code yX8_isWalker cX8_isWalker 3 (some .boolean) ∈ tblG := gw7 83 (by decide +kernel) (by decide +kernel)
theorem pl_X8_isWalker : Plain yX8_isWalker 1 := ⟨by decide, by decide, by decide +kernel⟩
theorem lk_X8_254 : LkV RX8 254 8 yX8_isWalker cX8_isWalker 3 (some .boolean) 1 := ⟨⟨TX8, 41, rfl⟩, wd254, wd255, wd256, wd238, wd257, pl_X8_isWalker⟩
theorem wd258 : Cond.methodLink RX8 109 yX8_walkers ∈ tblG := gw7 84 (by decide +kernel) (by decide +kernel)
theorem wd259 : Cond.instanceMethod yX8_walkers ∈ tblG := gw7 86 (by decide +kernel) (by decide +kernel)
theorem wd260 : Cond.selects RX8 yX8_walkers yX8_walkers ∈ tblG := gw0 71 (by decide +kernel) (by decide +kernel)
theorem wd261 : Cond.code yX8_walkers cX8_walkers 1 (some .int) ∈ tblG := gw7 87 (by decide +kernel) (by decide +kernel)
theorem pl_X8_walkers : Plain yX8_walkers 0 := ⟨by decide, by decide, by decide +kernel⟩
theorem lk_X8_109 : LkV RX8 109 8 yX8_walkers cX8_walkers 1 (some .int) 0 := ⟨⟨TX8, 41, rfl⟩, wd258, wd259, wd260, wd238, wd261, pl_X8_walkers⟩
theorem wd262 : Cond.methodLink RX8 102 yX8_isHeath ∈ tblG := gw7 96 (by decide +kernel) (by decide +kernel)
theorem wd263 : Cond.instanceMethod yX8_isHeath ∈ tblG := gw7 98 (by decide +kernel) (by decide +kernel)
theorem wd264 : Cond.selects RX8 yX8_isHeath yX8_isHeath ∈ tblG := gw0 72 (by decide +kernel) (by decide +kernel)
theorem wd265 : Cond.code yX8_isHeath cX8_isHeath 1 (some .boolean) ∈ tblG := gw7 99 (by decide +kernel) (by decide +kernel)
theorem pl_X8_isHeath : Plain yX8_isHeath 0 := ⟨by decide, by decide, by decide +kernel⟩
theorem lk_X8_102 : LkV RX8 102 8 yX8_isHeath cX8_isHeath 1 (some .boolean) 0 := ⟨⟨TX8, 41, rfl⟩, wd262, wd263, wd264, wd238, wd265, pl_X8_isHeath⟩
theorem wd266 : Cond.methodLink RX8 301 yX8_asksHour ∈ tblG := gw7 104 (by decide +kernel) (by decide +kernel)
theorem wd267 : Cond.instanceMethod yX8_asksHour ∈ tblG := gw7 106 (by decide +kernel) (by decide +kernel)
theorem wd268 : Cond.selects RX8 yX8_asksHour yX8_asksHour ∈ tblG := gw0 73 (by decide +kernel) (by decide +kernel)
theorem wd269 : Cond.code yX8_asksHour cX8_asksHour 2 (some .boolean) ∈ tblG := gw7 107 (by decide +kernel) (by decide +kernel)
theorem pl_X8_asksHour : Plain yX8_asksHour 1 := ⟨by decide, by decide, by decide +kernel⟩
theorem lk_X8_301 : LkV RX8 301 8 yX8_asksHour cX8_asksHour 2 (some .boolean) 1 := ⟨⟨TX8, 41, rfl⟩, wd266, wd267, wd268, wd238, wd269, pl_X8_asksHour⟩
theorem wd270 : Cond.methodLink RX8 292 yX8_asksHeath ∈ tblG := gw7 108 (by decide +kernel) (by decide +kernel)
theorem wd271 : Cond.instanceMethod yX8_asksHeath ∈ tblG := gw7 110 (by decide +kernel) (by decide +kernel)
theorem wd272 : Cond.selects RX8 yX8_asksHeath yX8_asksHeath ∈ tblG := gw0 74 (by decide +kernel) (by decide +kernel)
theorem wd273 : Cond.code yX8_asksHeath cX8_asksHeath 1 (some .boolean) ∈ tblG := gw7 111 (by decide +kernel) (by decide +kernel)
theorem pl_X8_asksHeath : Plain yX8_asksHeath 0 := ⟨by decide, by decide, by decide +kernel⟩
theorem lk_X8_292 : LkV RX8 292 8 yX8_asksHeath cX8_asksHeath 1 (some .boolean) 0 := ⟨⟨TX8, 41, rfl⟩, wd270, wd271, wd272, wd238, wd273, pl_X8_asksHeath⟩
theorem wd274 : Cond.methodLink RX8 286 yX8_asItIs ∈ tblG := gw7 112 (by decide +kernel) (by decide +kernel)
theorem wd275 : Cond.instanceMethod yX8_asItIs ∈ tblG := gw7 114 (by decide +kernel) (by decide +kernel)
theorem wd276 : Cond.selects RX8 yX8_asItIs yX8_asItIs ∈ tblG := gw0 75 (by decide +kernel) (by decide +kernel)
theorem wd277 : Cond.code yX8_asItIs cX8_asItIs 2 none ∈ tblG := gw7 115 (by decide +kernel) (by decide +kernel)
theorem pl_X8_asItIs : Plain yX8_asItIs 0 := ⟨by decide, by decide, by decide +kernel⟩
theorem lk_X8_286 : LkV RX8 286 8 yX8_asItIs cX8_asItIs 2 none 0 := ⟨⟨TX8, 41, rfl⟩, wd274, wd275, wd276, wd238, wd277, pl_X8_asItIs⟩
theorem wd278 : Cond.fieldLink RX8 257 RX8 "lawNow" "I" ∈ tblG := gw6 51 (by decide +kernel) (by decide +kernel)
theorem fk_X8_257 : FLk RX8 257 8 17 (.int) false := ⟨RX8, TX8, 41, tyX8, clX8, by decide, rfl, rfl, rfl, Or.inl wd278⟩
theorem wd279 : Cond.fieldLink RX8 260 RX8 "fogSet" "I" ∈ tblG := gw6 52 (by decide +kernel) (by decide +kernel)
theorem fk_X8_260 : FLk RX8 260 8 18 (.int) false := ⟨RX8, TX8, 41, tyX8, clX8, by decide, rfl, rfl, rfl, Or.inl wd279⟩
theorem wd280 : Cond.fieldLink RX8 263 RX8 "turnSet" "I" ∈ tblG := gw6 53 (by decide +kernel) (by decide +kernel)
theorem fk_X8_263 : FLk RX8 263 8 19 (.int) false := ⟨RX8, TX8, 41, tyX8, clX8, by decide, rfl, rfl, rfl, Or.inl wd280⟩
theorem wd281 : Cond.fieldLink RX8 34 RX8 "armFirst" "[I" ∈ tblG := gw6 49 (by decide +kernel) (by decide +kernel)
theorem fk_X8_34 : FLk RX8 34 8 15 (.array .int) true := ⟨RX8, TX8, 41, tyX8, clX8, by decide, rfl, rfl, rfl, Or.inl wd281⟩
theorem wd282 : Cond.methodLink RX8 251 yX8_armOf ∈ tblG := gw7 72 (by decide +kernel) (by decide +kernel)
theorem wd283 : Cond.instanceMethod yX8_armOf ∈ tblG := gw7 74 (by decide +kernel) (by decide +kernel)
theorem wd284 : Cond.selects RX8 yX8_armOf yX8_armOf ∈ tblG := gw0 69 (by decide +kernel) (by decide +kernel)
theorem wd285 : Cond.code yX8_armOf cX8_armOf 2 (some .int) ∈ tblG := gw7 75 (by decide +kernel) (by decide +kernel)
theorem pl_X8_armOf : Plain yX8_armOf 1 := ⟨by decide, by decide, by decide +kernel⟩
theorem lk_X8_251 : LkV RX8 251 8 yX8_armOf cX8_armOf 2 (some .int) 1 := ⟨⟨TX8, 41, rfl⟩, wd282, wd283, wd284, wd238, wd285, pl_X8_armOf⟩
theorem wd286 : Cond.fieldLink RX8 37 RX8 "hourNow" "[I" ∈ tblG := gw6 50 (by decide +kernel) (by decide +kernel)
theorem fk_X8_37 : FLk RX8 37 8 16 (.array .int) true := ⟨RX8, TX8, 41, tyX8, clX8, by decide, rfl, rfl, rfl, Or.inl wd286⟩
theorem wd287 : Cond.methodLink RX8 289 yX8_goAll ∈ tblG := gw7 116 (by decide +kernel) (by decide +kernel)
theorem wd288 : Cond.instanceMethod yX8_goAll ∈ tblG := gw7 118 (by decide +kernel) (by decide +kernel)
theorem wd289 : Cond.selects RX8 yX8_goAll yX8_goAll ∈ tblG := gw0 76 (by decide +kernel) (by decide +kernel)
theorem wd290 : Cond.code yX8_goAll cX8_goAll 3 none ∈ tblG := gw7 119 (by decide +kernel) (by decide +kernel)
theorem pl_X8_goAll : Plain yX8_goAll 0 := ⟨by decide, by decide, by decide +kernel⟩
theorem lk_X8_289 : LkV RX8 289 8 yX8_goAll cX8_goAll 3 none 0 := ⟨⟨TX8, 41, rfl⟩, wd287, wd288, wd289, wd238, wd290, pl_X8_goAll⟩
theorem wd291 : Cond.fieldLink RX8 40 RX8 "armNow" "[I" ∈ tblG := gw6 54 (by decide +kernel) (by decide +kernel)
theorem fk_X8_40 : FLk RX8 40 8 20 (.array .int) true := ⟨RX8, TX8, 41, tyX8, clX8, by decide, rfl, rfl, rfl, Or.inl wd291⟩
theorem wd292 : Cond.fieldLink RX8 55 RX8 "sentBy" "[I" ∈ tblG := gw6 59 (by decide +kernel) (by decide +kernel)
theorem fk_X8_55 : FLk RX8 55 8 25 (.array .int) true := ⟨RX8, TX8, 41, tyX8, clX8, by decide, rfl, rfl, rfl, Or.inl wd292⟩
theorem wd293 : Cond.fieldLink RX8 61 RX8 "guestNow" "[I" ∈ tblG := gw6 61 (by decide +kernel) (by decide +kernel)
theorem fk_X8_61 : FLk RX8 61 8 27 (.array .int) true := ⟨RX8, TX8, 41, tyX8, clX8, by decide, rfl, rfl, rfl, Or.inl wd293⟩
theorem wd294 : Cond.fieldLink RX8 64 RX8 "refused" "[I" ∈ tblG := gw6 62 (by decide +kernel) (by decide +kernel)
theorem fk_X8_64 : FLk RX8 64 8 28 (.array .int) true := ⟨RX8, TX8, 41, tyX8, clX8, by decide, rfl, rfl, rfl, Or.inl wd294⟩
theorem wd295 : Cond.fieldLink RX8 43 RX8 "placeNow" "[I" ∈ tblG := gw6 55 (by decide +kernel) (by decide +kernel)
theorem fk_X8_43 : FLk RX8 43 8 21 (.array .int) true := ⟨RX8, TX8, 41, tyX8, clX8, by decide, rfl, rfl, rfl, Or.inl wd295⟩
theorem wd296 : Cond.fieldLink RX8 58 RX8 "walked" "[I" ∈ tblG := gw6 60 (by decide +kernel) (by decide +kernel)
theorem fk_X8_58 : FLk RX8 58 8 26 (.array .int) true := ⟨RX8, TX8, 41, tyX8, clX8, by decide, rfl, rfl, rfl, Or.inl wd296⟩
theorem wd297 : Cond.methodLink RX8 106 yX8_hours ∈ tblG := gw7 120 (by decide +kernel) (by decide +kernel)
theorem wd298 : Cond.instanceMethod yX8_hours ∈ tblG := gw7 122 (by decide +kernel) (by decide +kernel)
theorem wd299 : Cond.selects RX8 yX8_hours yX8_hours ∈ tblG := gw0 77 (by decide +kernel) (by decide +kernel)
theorem wd300 : Cond.code yX8_hours cX8_hours 1 (some .int) ∈ tblG := gw7 123 (by decide +kernel) (by decide +kernel)
theorem pl_X8_hours : Plain yX8_hours 0 := ⟨by decide, by decide, by decide +kernel⟩
theorem lk_X8_106 : LkV RX8 106 8 yX8_hours cX8_hours 1 (some .int) 0 := ⟨⟨TX8, 41, rfl⟩, wd297, wd298, wd299, wd238, wd300, pl_X8_hours⟩
theorem wd301 : Cond.fieldLink RX8 49 RX8 "armAt" "[I" ∈ tblG := gw6 57 (by decide +kernel) (by decide +kernel)
theorem fk_X8_49 : FLk RX8 49 8 23 (.array .int) true := ⟨RX8, TX8, 41, tyX8, clX8, by decide, rfl, rfl, rfl, Or.inl wd301⟩
theorem wd302 : Cond.methodLink RX8 295 yX8_isHour ∈ tblG := gw7 147 (by decide +kernel) (by decide +kernel)
theorem wd303 : Cond.instanceMethod yX8_isHour ∈ tblG := gw7 149 (by decide +kernel) (by decide +kernel)
theorem wd304 : Cond.selects RX8 yX8_isHour yX8_isHour ∈ tblG := gw0 83 (by decide +kernel) (by decide +kernel)
theorem wd305 : Cond.code yX8_isHour cX8_isHour 3 (some .boolean) ∈ tblG := gw7 150 (by decide +kernel) (by decide +kernel)
theorem pl_X8_isHour : Plain yX8_isHour 1 := ⟨by decide, by decide, by decide +kernel⟩
theorem lk_X8_295 : LkV RX8 295 8 yX8_isHour cX8_isHour 3 (some .boolean) 1 := ⟨⟨TX8, 41, rfl⟩, wd302, wd303, wd304, wd238, wd305, pl_X8_isHour⟩
theorem wd306 : Cond.methodLink RX8 311 yX8_isAhead ∈ tblG := gw7 176 (by decide +kernel) (by decide +kernel)
theorem wd307 : Cond.instanceMethod yX8_isAhead ∈ tblG := gw7 178 (by decide +kernel) (by decide +kernel)
theorem wd308 : Cond.selects RX8 yX8_isAhead yX8_isAhead ∈ tblG := gw0 87 (by decide +kernel) (by decide +kernel)
theorem wd309 : Cond.code yX8_isAhead cX8_isAhead 3 (some .boolean) ∈ tblG := gw7 179 (by decide +kernel) (by decide +kernel)
theorem pl_X8_isAhead : Plain yX8_isAhead 1 := ⟨by decide, by decide, by decide +kernel⟩
theorem lk_X8_311 : LkV RX8 311 8 yX8_isAhead cX8_isAhead 3 (some .boolean) 1 := ⟨⟨TX8, 41, rfl⟩, wd306, wd307, wd308, wd238, wd309, pl_X8_isAhead⟩
theorem wd310 : Cond.methodLink RX8 314 yX8_asksPost ∈ tblG := gw7 184 (by decide +kernel) (by decide +kernel)
theorem wd311 : Cond.instanceMethod yX8_asksPost ∈ tblG := gw7 186 (by decide +kernel) (by decide +kernel)
theorem wd312 : Cond.selects RX8 yX8_asksPost yX8_asksPost ∈ tblG := gw0 88 (by decide +kernel) (by decide +kernel)
theorem wd313 : Cond.code yX8_asksPost cX8_asksPost 2 (some .boolean) ∈ tblG := gw7 187 (by decide +kernel) (by decide +kernel)
theorem pl_X8_asksPost : Plain yX8_asksPost 1 := ⟨by decide, by decide, by decide +kernel⟩
theorem lk_X8_314 : LkV RX8 314 8 yX8_asksPost cX8_asksPost 2 (some .boolean) 1 := ⟨⟨TX8, 41, rfl⟩, wd310, wd311, wd312, wd238, wd313, pl_X8_asksPost⟩
theorem wd314 : Cond.methodLink RX8 320 yX8_asksWalker ∈ tblG := gw7 200 (by decide +kernel) (by decide +kernel)
theorem wd315 : Cond.instanceMethod yX8_asksWalker ∈ tblG := gw7 202 (by decide +kernel) (by decide +kernel)
theorem wd316 : Cond.selects RX8 yX8_asksWalker yX8_asksWalker ∈ tblG := gw0 90 (by decide +kernel) (by decide +kernel)
theorem wd317 : Cond.code yX8_asksWalker cX8_asksWalker 2 (some .boolean) ∈ tblG := gw7 203 (by decide +kernel) (by decide +kernel)
theorem pl_X8_asksWalker : Plain yX8_asksWalker 1 := ⟨by decide, by decide, by decide +kernel⟩
theorem lk_X8_320 : LkV RX8 320 8 yX8_asksWalker cX8_asksWalker 2 (some .boolean) 1 := ⟨⟨TX8, 41, rfl⟩, wd314, wd315, wd316, wd238, wd317, pl_X8_asksWalker⟩
theorem wd318 : Cond.methodLink RX8 346 yX8_areTwo ∈ tblG := gw8 41 (by decide +kernel) (by decide +kernel)
theorem wd319 : Cond.instanceMethod yX8_areTwo ∈ tblG := gw8 43 (by decide +kernel) (by decide +kernel)
theorem wd320 : Cond.selects RX8 yX8_areTwo yX8_areTwo ∈ tblG := gw0 96 (by decide +kernel) (by decide +kernel)
theorem wd321 : Cond.code yX8_areTwo cX8_areTwo 3 (some .boolean) ∈ tblG := gw8 44 (by decide +kernel) (by decide +kernel)
theorem pl_X8_areTwo : Plain yX8_areTwo 2 := ⟨by decide, by decide, by decide +kernel⟩
theorem lk_X8_346 : LkV RX8 346 8 yX8_areTwo cX8_areTwo 3 (some .boolean) 2 := ⟨⟨TX8, 41, rfl⟩, wd318, wd319, wd320, wd238, wd321, pl_X8_areTwo⟩
theorem wd322 : Cond.methodLink RX8 413 yX8_askMay ∈ tblG := gw8 179 (by decide +kernel) (by decide +kernel)
theorem wd323 : Cond.instanceMethod yX8_askMay ∈ tblG := gw8 181 (by decide +kernel) (by decide +kernel)
theorem wd324 : Cond.selects RX8 yX8_askMay yX8_askMay ∈ tblG := gw0 110 (by decide +kernel) (by decide +kernel)
theorem wd325 : Cond.code yX8_askMay cX8_askMay 3 (some .int) ∈ tblG := gw8 182 (by decide +kernel) (by decide +kernel)
theorem pl_X8_askMay : Plain yX8_askMay 2 := ⟨by decide, by decide, by decide +kernel⟩
theorem lk_X8_413 : LkV RX8 413 8 yX8_askMay cX8_askMay 3 (some .int) 2 := ⟨⟨TX8, 41, rfl⟩, wd322, wd323, wd324, wd238, wd325, pl_X8_askMay⟩
theorem wd326 : Cond.methodLink RX8 410 yX8_askSeen ∈ tblG := gw8 183 (by decide +kernel) (by decide +kernel)
theorem wd327 : Cond.instanceMethod yX8_askSeen ∈ tblG := gw8 185 (by decide +kernel) (by decide +kernel)
theorem wd328 : Cond.selects RX8 yX8_askSeen yX8_askSeen ∈ tblG := gw0 111 (by decide +kernel) (by decide +kernel)
theorem wd329 : Cond.code yX8_askSeen cX8_askSeen 3 (some .int) ∈ tblG := gw8 186 (by decide +kernel) (by decide +kernel)
theorem pl_X8_askSeen : Plain yX8_askSeen 1 := ⟨by decide, by decide, by decide +kernel⟩
theorem lk_X8_410 : LkV RX8 410 8 yX8_askSeen cX8_askSeen 3 (some .int) 1 := ⟨⟨TX8, 41, rfl⟩, wd326, wd327, wd328, wd238, wd329, pl_X8_askSeen⟩
theorem wd330 : Cond.methodLink RX8 394 yX8_isSlot ∈ tblG := gw8 187 (by decide +kernel) (by decide +kernel)
theorem wd331 : Cond.static yX8_isSlot ∈ tblG := gw8 188 (by decide +kernel) (by decide +kernel)
theorem wd332 : Cond.code yX8_isSlot cX8_isSlot 1 (some .boolean) ∈ tblG := gw8 189 (by decide +kernel) (by decide +kernel)
theorem pl_X8_isSlot : Plain yX8_isSlot 1 := ⟨by decide, by decide, by decide +kernel⟩
theorem lk_X8_394 : LkS RX8 394 yX8_isSlot cX8_isSlot 1 (some .boolean) 1 := ⟨wd330, wd331, wd238, wd332, pl_X8_isSlot⟩
theorem wd333 : Cond.constantLong RX8 471 (-2) ∈ tblG := gw9 45 (by decide +kernel) (by decide +kernel)
theorem wd334 : Cond.methodLink RX8 468 yX8_isFog ∈ tblG := gw9 41 (by decide +kernel) (by decide +kernel)
theorem wd335 : Cond.instanceMethod yX8_isFog ∈ tblG := gw9 43 (by decide +kernel) (by decide +kernel)
theorem wd336 : Cond.selects RX8 yX8_isFog yX8_isFog ∈ tblG := gw0 121 (by decide +kernel) (by decide +kernel)
theorem wd337 : Cond.code yX8_isFog cX8_isFog 3 (some .boolean) ∈ tblG := gw9 44 (by decide +kernel) (by decide +kernel)
theorem pl_X8_isFog : Plain yX8_isFog 2 := ⟨by decide, by decide, by decide +kernel⟩
theorem lk_X8_468 : LkV RX8 468 8 yX8_isFog cX8_isFog 3 (some .boolean) 2 := ⟨⟨TX8, 41, rfl⟩, wd334, wd335, wd336, wd238, wd337, pl_X8_isFog⟩
theorem wd338 : Cond.methodLink RX8 489 yX8_isSeed ∈ tblG := gw9 78 (by decide +kernel) (by decide +kernel)
theorem wd339 : Cond.static yX8_isSeed ∈ tblG := gw9 79 (by decide +kernel) (by decide +kernel)
theorem wd340 : Cond.code yX8_isSeed cX8_isSeed 1 (some .boolean) ∈ tblG := gw9 80 (by decide +kernel) (by decide +kernel)
theorem pl_X8_isSeed : Plain yX8_isSeed 1 := ⟨by decide, by decide, by decide +kernel⟩
theorem lk_X8_489 : LkS RX8 489 yX8_isSeed cX8_isSeed 1 (some .boolean) 1 := ⟨wd338, wd339, wd238, wd340, pl_X8_isSeed⟩
theorem wd341 : Cond.constantLong RX8 385 (20) ∈ tblG := gw8 145 (by decide +kernel) (by decide +kernel)
theorem wd342 : Cond.methodLink RX8 3 objectInit ∈ tblG := gw6 34 (by decide +kernel) (by decide +kernel)
theorem wd343 : Cond.fieldLink RX8 13 RX8 "images" "[I" ∈ tblG := gw6 36 (by decide +kernel) (by decide +kernel)
theorem fk_X8_13 : FLk RX8 13 8 2 (.array .int) true := ⟨RX8, TX8, 41, tyX8, clX8, by decide, rfl, rfl, rfl, Or.inl wd343⟩
theorem wd344 : Cond.arrayClass .boolean ∈ tblG := gw6 158 (by decide +kernel) (by decide +kernel)
theorem wd345 : Cond.fieldLink RX8 16 RX8 "hasImage" "[Z" ∈ tblG := gw6 37 (by decide +kernel) (by decide +kernel)
theorem fk_X8_16 : FLk RX8 16 8 3 (.array .boolean) true := ⟨RX8, TX8, 41, tyX8, clX8, by decide, rfl, rfl, rfl, Or.inl wd345⟩
theorem wd346 : Cond.fieldLink RX8 20 RX8 "tape" "[B" ∈ tblG := gw6 38 (by decide +kernel) (by decide +kernel)
theorem fk_X8_20 : FLk RX8 20 8 4 (.array .byte) true := ⟨RX8, TX8, 41, tyX8, clX8, by decide, rfl, rfl, rfl, Or.inl wd346⟩
theorem wd347 : Cond.fieldLink RX8 24 RX8 "five" "[I" ∈ tblG := gw6 40 (by decide +kernel) (by decide +kernel)
theorem fk_X8_24 : FLk RX8 24 8 6 (.array .int) true := ⟨RX8, TX8, 41, tyX8, clX8, by decide, rfl, rfl, rfl, Or.inl wd347⟩
theorem wd348 : Cond.fieldLink RX8 27 RX8 "faultPlace" "I" ∈ tblG := gw6 47 (by decide +kernel) (by decide +kernel)
theorem fk_X8_27 : FLk RX8 27 8 13 (.int) false := ⟨RX8, TX8, 41, tyX8, clX8, by decide, rfl, rfl, rfl, Or.inl wd348⟩
theorem wd349 : Cond.fieldLink RX8 31 RX8 "fresh" "[I" ∈ tblG := gw6 48 (by decide +kernel) (by decide +kernel)
theorem fk_X8_31 : FLk RX8 31 8 14 (.array .int) true := ⟨RX8, TX8, 41, tyX8, clX8, by decide, rfl, rfl, rfl, Or.inl wd349⟩
theorem wd350 : Cond.fieldLink RX8 46 RX8 "placeAt" "[I" ∈ tblG := gw6 56 (by decide +kernel) (by decide +kernel)
theorem fk_X8_46 : FLk RX8 46 8 22 (.array .int) true := ⟨RX8, TX8, 41, tyX8, clX8, by decide, rfl, rfl, rfl, Or.inl wd350⟩
theorem wd351 : Cond.fieldLink RX8 52 RX8 "sentAt" "[I" ∈ tblG := gw6 58 (by decide +kernel) (by decide +kernel)
theorem fk_X8_52 : FLk RX8 52 8 24 (.array .int) true := ⟨RX8, TX8, 41, tyX8, clX8, by decide, rfl, rfl, rfl, Or.inl wd351⟩
theorem wd352 : Cond.fieldLink RX8 67 RX8 "some" "[I" ∈ tblG := gw6 63 (by decide +kernel) (by decide +kernel)
theorem fk_X8_67 : FLk RX8 67 8 29 (.array .int) true := ⟨RX8, TX8, 41, tyX8, clX8, by decide, rfl, rfl, rfl, Or.inl wd352⟩
theorem wd353 : Cond.fieldLink RX8 70 RX8 "placeBy" "[I" ∈ tblG := gw6 65 (by decide +kernel) (by decide +kernel)
theorem fk_X8_70 : FLk RX8 70 8 31 (.array .int) true := ⟨RX8, TX8, 41, tyX8, clX8, by decide, rfl, rfl, rfl, Or.inl wd353⟩
theorem wd354 : Cond.fieldLink RX8 73 RX8 "worthBy" "[I" ∈ tblG := gw6 67 (by decide +kernel) (by decide +kernel)
theorem fk_X8_73 : FLk RX8 73 8 33 (.array .int) true := ⟨RX8, TX8, 41, tyX8, clX8, by decide, rfl, rfl, rfl, Or.inl wd354⟩
theorem wd355 : Cond.fieldLink RX8 76 RX8 "many" "[I" ∈ tblG := gw6 71 (by decide +kernel) (by decide +kernel)
theorem fk_X8_76 : FLk RX8 76 8 37 (.array .int) true := ⟨RX8, TX8, 41, tyX8, clX8, by decide, rfl, rfl, rfl, Or.inl wd355⟩
theorem wd356 : Cond.fieldLink RX8 79 RX8 "width" "[I" ∈ tblG := gw6 72 (by decide +kernel) (by decide +kernel)
theorem fk_X8_79 : FLk RX8 79 8 38 (.array .int) true := ⟨RX8, TX8, 41, tyX8, clX8, by decide, rfl, rfl, rfl, Or.inl wd356⟩
theorem wd357 : Cond.fieldLink RX8 82 RX8 "numbers" "[J" ∈ tblG := gw6 73 (by decide +kernel) (by decide +kernel)
theorem fk_X8_82 : FLk RX8 82 8 39 (.array .long) true := ⟨RX8, TX8, 41, tyX8, clX8, by decide, rfl, rfl, rfl, Or.inl wd357⟩
theorem wd358 : Cond.fieldLink RX8 86 RX8 "moving" "[J" ∈ tblG := gw6 74 (by decide +kernel) (by decide +kernel)
theorem fk_X8_86 : FLk RX8 86 8 40 (.array .long) true := ⟨RX8, TX8, 41, tyX8, clX8, by decide, rfl, rfl, rfl, Or.inl wd358⟩
theorem wd359 : Cond.fieldLink RX8 121 RX8 "taped" "I" ∈ tblG := gw6 39 (by decide +kernel) (by decide +kernel)
theorem fk_X8_121 : FLk RX8 121 8 5 (.int) false := ⟨RX8, TX8, 41, tyX8, clX8, by decide, rfl, rfl, rfl, Or.inl wd359⟩
theorem wd360 : Cond.fieldLink RX8 124 RX8 "size" "I" ∈ tblG := gw6 41 (by decide +kernel) (by decide +kernel)
theorem fk_X8_124 : FLk RX8 124 8 7 (.int) false := ⟨RX8, TX8, 41, tyX8, clX8, by decide, rfl, rfl, rfl, Or.inl wd360⟩
theorem wd361 : Cond.fieldLink RX8 127 RX8 "at" "I" ∈ tblG := gw6 42 (by decide +kernel) (by decide +kernel)
theorem fk_X8_127 : FLk RX8 127 8 8 (.int) false := ⟨RX8, TX8, 41, tyX8, clX8, by decide, rfl, rfl, rfl, Or.inl wd361⟩
theorem wd362 : Cond.fieldLink RX8 158 RX8 "faultKind" "I" ∈ tblG := gw6 46 (by decide +kernel) (by decide +kernel)
theorem fk_X8_158 : FLk RX8 158 8 12 (.int) false := ⟨RX8, TX8, 41, tyX8, clX8, by decide, rfl, rfl, rfl, Or.inl wd362⟩
theorem wd363 : Cond.methodLink RX8 177 yX8_advance ∈ tblG := gw6 187 (by decide +kernel) (by decide +kernel)
theorem wd364 : Cond.instanceMethod yX8_advance ∈ tblG := gw6 189 (by decide +kernel) (by decide +kernel)
theorem wd365 : Cond.selects RX8 yX8_advance yX8_advance ∈ tblG := gw0 47 (by decide +kernel) (by decide +kernel)
theorem wd366 : Cond.code yX8_advance cX8_advance 2 none ∈ tblG := gw6 190 (by decide +kernel) (by decide +kernel)
theorem pl_X8_advance : Plain yX8_advance 0 := ⟨by decide, by decide, by decide +kernel⟩
theorem lk_X8_177 : LkV RX8 177 8 yX8_advance cX8_advance 2 none 0 := ⟨⟨TX8, 41, rfl⟩, wd363, wd364, wd365, wd238, wd366, pl_X8_advance⟩
theorem wd367 : Cond.methodLink RX8 130 yX8_see ∈ tblG := gw6 191 (by decide +kernel) (by decide +kernel)
theorem wd368 : Cond.instanceMethod yX8_see ∈ tblG := gw6 193 (by decide +kernel) (by decide +kernel)
theorem wd369 : Cond.selects RX8 yX8_see yX8_see ∈ tblG := gw0 48 (by decide +kernel) (by decide +kernel)
theorem wd370 : Cond.code yX8_see cX8_see 2 (some .int) ∈ tblG := gw6 194 (by decide +kernel) (by decide +kernel)
theorem pl_X8_see : Plain yX8_see 1 := ⟨by decide, by decide, by decide +kernel⟩
theorem lk_X8_130 : LkV RX8 130 8 yX8_see cX8_see 2 (some .int) 1 := ⟨⟨TX8, 41, rfl⟩, wd367, wd368, wd369, wd238, wd370, pl_X8_see⟩
theorem wd371 : Cond.fieldLink RX8 134 RX8 "from" "I" ∈ tblG := gw6 43 (by decide +kernel) (by decide +kernel)
theorem fk_X8_134 : FLk RX8 134 8 9 (.int) false := ⟨RX8, TX8, 41, tyX8, clX8, by decide, rfl, rfl, rfl, Or.inl wd371⟩
theorem wd372 : Cond.fieldLink RX8 137 RX8 "token" "I" ∈ tblG := gw6 44 (by decide +kernel) (by decide +kernel)
theorem fk_X8_137 : FLk RX8 137 8 10 (.int) false := ⟨RX8, TX8, 41, tyX8, clX8, by decide, rfl, rfl, rfl, Or.inl wd372⟩
theorem wd373 : Cond.methodLink RX8 161 yX8_good ∈ tblG := gw6 201 (by decide +kernel) (by decide +kernel)
theorem wd374 : Cond.instanceMethod yX8_good ∈ tblG := gw6 203 (by decide +kernel) (by decide +kernel)
theorem wd375 : Cond.selects RX8 yX8_good yX8_good ∈ tblG := gw0 49 (by decide +kernel) (by decide +kernel)
theorem wd376 : Cond.code yX8_good cX8_good 1 (some .boolean) ∈ tblG := gw6 204 (by decide +kernel) (by decide +kernel)
theorem pl_X8_good : Plain yX8_good 0 := ⟨by decide, by decide, by decide +kernel⟩
theorem lk_X8_161 : LkV RX8 161 8 yX8_good cX8_good 1 (some .boolean) 0 := ⟨⟨TX8, 41, rfl⟩, wd373, wd374, wd375, wd238, wd376, pl_X8_good⟩
theorem wd377 : Cond.constantLong RX8 496 (9) ∈ tblG := gw9 98 (by decide +kernel) (by decide +kernel)
theorem wd378 : Cond.constantLong RX8 92 (2) ∈ tblG := gw6 163 (by decide +kernel) (by decide +kernel)
abbrev flM (cy : Nat → ClassId) (b : Nat → Nat) (ts : Int32) (pn : Nat → Int32) : List (Nat × va_E) := [(b 0, .inr (8, .int 0 :: .ref (b 1) :: .ref (b 2) :: .ref (b 3) :: .ref (b 4) :: .int 0 :: .ref (b 6) :: .int 0 :: .int 0 :: .int 0 :: .int 0 :: .int 0 :: .int 0 :: .int (-1) :: .ref (b 14) :: .ref (b 15) :: .ref (b 16) :: .int 0 :: .int 0 :: .int ts :: .ref (b 20) :: .ref (b 21) :: .ref (b 22) :: .ref (b 23) :: .ref (b 24) :: .ref (b 25) :: .ref (b 26) :: .ref (b 27) :: .ref (b 28) :: .ref (b 29) :: .int 0 :: .ref (b 31) :: .int 0 :: .ref (b 33) :: .long 0 :: .long 0 :: .long 0 :: .ref (b 37) :: .ref (b 38) :: .ref (b 39) :: .ref (b 40) :: [])), (b 1, .inl (cy 1, 102, .inl (fun _ => 0))), (b 2, .inl (cy 1, 306, .inl (fun _ => 0))), (b 3, .inl (cy 3, 3, .inl (fun _ => 0))), (b 4, .inl (cy 0, 800, .inl (fun _ => 0))), (b 6, .inl (cy 1, 5, .inl (fun _ => 0))), (b 14, .inl (cy 1, 102, .inl (fun _ => 0))), (b 15, .inl (cy 1, 7, .inl (fun _ => 0))), (b 16, .inl (cy 1, 8, .inl (fun _ => 0))), (b 20, .inl (cy 1, 7, .inl (fun _ => 0))), (b 21, .inl (cy 1, 8, .inl pn)), (b 22, .inl (cy 1, 136, .inl (fun _ => 0))), (b 23, .inl (cy 1, 119, .inl (fun _ => 0))), (b 24, .inl (cy 1, 16, .inl (fun _ => 0))), (b 25, .inl (cy 1, 28, .inl (fun _ => 0))), (b 26, .inl (cy 1, 8, .inl (fun _ => 0))), (b 27, .inl (cy 1, 4, .inl (fun _ => 0))), (b 28, .inl (cy 1, 4, .inl (fun _ => 0))), (b 29, .inl (cy 1, 7, .inl (fun _ => 0))), (b 31, .inl (cy 1, 544, .inl (fun _ => 0))), (b 33, .inl (cy 1, 128, .inl (fun _ => 0))), (b 37, .inl (cy 1, 4, .inl (upd (upd (upd (upd (fun _ => 0) ((0 : Int32).toNatClampNeg) (-1)) ((1 : Int32).toNatClampNeg) (-1)) ((2 : Int32).toNatClampNeg) (-1)) ((3 : Int32).toNatClampNeg) (-1)))), (b 38, .inl (cy 1, 4, .inl (fun _ => 0))), (b 39, .inl (cy 2, 240, .inr (.inl (fun _ => 0)))), (b 40, .inl (cy 2, 60, .inr (.inl (fun _ => 0))))]
