theorem dX8_insideBy_0 : decode cX8_insideBy 0 = .ok (.aload_n 0, 1) := by decide +kernel
theorem dX8_insideBy_1 : decode cX8_insideBy 1 = .ok (.iload_n 1, 1) := by decide +kernel
theorem dX8_insideBy_2 : decode cX8_insideBy 2 = .ok (.putfield 257, 3) := by decide +kernel
theorem dX8_insideBy_5 : decode cX8_insideBy 5 = .ok (.aload_n 0, 1) := by decide +kernel
theorem dX8_insideBy_6 : decode cX8_insideBy 6 = .ok (.invokevirtual 289, 3) := by decide +kernel
theorem dX8_insideBy_9 : decode cX8_insideBy 9 = .ok (.aload_n 0, 1) := by decide +kernel
theorem dX8_insideBy_10 : decode cX8_insideBy 10 = .ok (.invokevirtual 391, 3) := by decide +kernel
theorem dX8_insideBy_13 : decode cX8_insideBy 13 = .ok (.ireturn, 1) := by decide +kernel
theorem dX8_by_0 : decode cX8_by 0 = .ok (.aload_n 0, 1) := by decide +kernel
theorem dX8_by_1 : decode cX8_by 1 = .ok (.invokevirtual 292, 3) := by decide +kernel
theorem dX8_by_4 : decode cX8_by 4 = .ok (.ifCond .eq 23, 3) := by decide +kernel
theorem dX8_by_7 : decode cX8_by 7 = .ok (.iload_n 1, 1) := by decide +kernel
theorem dX8_by_8 : decode cX8_by 8 = .ok (.i2l, 1) := by decide +kernel
theorem dX8_by_9 : decode cX8_by 9 = .ok (.lconst 0, 1) := by decide +kernel
theorem dX8_by_10 : decode cX8_by 10 = .ok (.ldc2_w 428, 3) := by decide +kernel
theorem dX8_by_13 : decode cX8_by 13 = .ok (.invokestatic 94, 3) := by decide +kernel
theorem dX8_by_16 : decode cX8_by 16 = .ok (.ifCond .eq 11, 3) := by decide +kernel
theorem dX8_by_19 : decode cX8_by 19 = .ok (.aload_n 0, 1) := by decide +kernel
theorem dX8_by_20 : decode cX8_by 20 = .ok (.iload_n 1, 1) := by decide +kernel
theorem dX8_by_21 : decode cX8_by 21 = .ok (.invokevirtual 430, 3) := by decide +kernel
theorem dX8_by_24 : decode cX8_by 24 = .ok (.goto 5, 3) := by decide +kernel
theorem dX8_by_27 : decode cX8_by 27 = .ok (.bipush (-2), 2) := by decide +kernel
theorem dX8_by_29 : decode cX8_by 29 = .ok (.ireturn, 1) := by decide +kernel
theorem dX8_law_0 : decode cX8_law 0 = .ok (.aload_n 0, 1) := by decide +kernel
theorem dX8_law_1 : decode cX8_law 1 = .ok (.invokevirtual 292, 3) := by decide +kernel
theorem dX8_law_4 : decode cX8_law 4 = .ok (.ifCond .ne 6, 3) := by decide +kernel
theorem dX8_law_7 : decode cX8_law 7 = .ok (.bipush (-2), 2) := by decide +kernel
theorem dX8_law_9 : decode cX8_law 9 = .ok (.ireturn, 1) := by decide +kernel
theorem dX8_law_10 : decode cX8_law 10 = .ok (.iconst 0, 1) := by decide +kernel
theorem dX8_law_11 : decode cX8_law 11 = .ok (.istore_n 1, 1) := by decide +kernel
theorem dX8_law_12 : decode cX8_law 12 = .ok (.iconst 1, 1) := by decide +kernel
theorem dX8_law_13 : decode cX8_law 13 = .ok (.istore_n 2, 1) := by decide +kernel
theorem dX8_law_14 : decode cX8_law 14 = .ok (.iload_n 2, 1) := by decide +kernel
theorem dX8_law_15 : decode cX8_law 15 = .ok (.iconst 4, 1) := by decide +kernel
theorem dX8_law_16 : decode cX8_law 16 = .ok (.if_icmp .ge 34, 3) := by decide +kernel
theorem dX8_law_19 : decode cX8_law 19 = .ok (.aload_n 0, 1) := by decide +kernel
theorem dX8_law_20 : decode cX8_law 20 = .ok (.iload_n 2, 1) := by decide +kernel
theorem dX8_law_21 : decode cX8_law 21 = .ok (.invokevirtual 430, 3) := by decide +kernel
theorem dX8_law_24 : decode cX8_law 24 = .ok (.invokestatic 334, 3) := by decide +kernel
theorem dX8_law_27 : decode cX8_law 27 = .ok (.aload_n 0, 1) := by decide +kernel
theorem dX8_law_28 : decode cX8_law 28 = .ok (.iload_n 1, 1) := by decide +kernel
theorem dX8_law_29 : decode cX8_law 29 = .ok (.invokevirtual 430, 3) := by decide +kernel
theorem dX8_law_32 : decode cX8_law 32 = .ok (.invokestatic 334, 3) := by decide +kernel
theorem dX8_law_35 : decode cX8_law 35 = .ok (.if_icmp .le 7, 3) := by decide +kernel
theorem dX8_law_38 : decode cX8_law 38 = .ok (.iload_n 2, 1) := by decide +kernel
theorem dX8_law_39 : decode cX8_law 39 = .ok (.goto 4, 3) := by decide +kernel
theorem dX8_law_42 : decode cX8_law 42 = .ok (.iload_n 1, 1) := by decide +kernel
theorem dX8_law_43 : decode cX8_law 43 = .ok (.istore_n 1, 1) := by decide +kernel
theorem dX8_law_44 : decode cX8_law 44 = .ok (.iinc 2 1, 3) := by decide +kernel
theorem dX8_law_47 : decode cX8_law 47 = .ok (.goto (-33), 3) := by decide +kernel
theorem dX8_law_50 : decode cX8_law 50 = .ok (.iload_n 1, 1) := by decide +kernel
theorem dX8_law_51 : decode cX8_law 51 = .ok (.ireturn, 1) := by decide +kernel
theorem dX8_worthOf_0 : decode cX8_worthOf 0 = .ok (.aload_n 0, 1) := by decide +kernel
theorem dX8_worthOf_1 : decode cX8_worthOf 1 = .ok (.iload_n 1, 1) := by decide +kernel
theorem dX8_worthOf_2 : decode cX8_worthOf 2 = .ok (.putfield 263, 3) := by decide +kernel
theorem dX8_worthOf_5 : decode cX8_worthOf 5 = .ok (.aload_n 0, 1) := by decide +kernel
theorem dX8_worthOf_6 : decode cX8_worthOf 6 = .ok (.invokevirtual 289, 3) := by decide +kernel
theorem dX8_worthOf_9 : decode cX8_worthOf 9 = .ok (.aload_n 0, 1) := by decide +kernel
theorem dX8_worthOf_10 : decode cX8_worthOf 10 = .ok (.invokevirtual 391, 3) := by decide +kernel
theorem dX8_worthOf_13 : decode cX8_worthOf 13 = .ok (.invokestatic 334, 3) := by decide +kernel
theorem dX8_worthOf_16 : decode cX8_worthOf 16 = .ok (.ireturn, 1) := by decide +kernel
theorem dX8_worth_0 : decode cX8_worth 0 = .ok (.aload_n 0, 1) := by decide +kernel
theorem dX8_worth_1 : decode cX8_worth 1 = .ok (.invokevirtual 286, 3) := by decide +kernel
theorem dX8_worth_4 : decode cX8_worth 4 = .ok (.aload_n 0, 1) := by decide +kernel
theorem dX8_worth_5 : decode cX8_worth 5 = .ok (.invokevirtual 102, 3) := by decide +kernel
theorem dX8_worth_8 : decode cX8_worth 8 = .ok (.ifCond .eq 25, 3) := by decide +kernel
theorem dX8_worth_11 : decode cX8_worth 11 = .ok (.iload_n 1, 1) := by decide +kernel
theorem dX8_worth_12 : decode cX8_worth 12 = .ok (.i2l, 1) := by decide +kernel
theorem dX8_worth_13 : decode cX8_worth 13 = .ok (.lconst 0, 1) := by decide +kernel
theorem dX8_worth_14 : decode cX8_worth 14 = .ok (.aload_n 0, 1) := by decide +kernel
theorem dX8_worth_15 : decode cX8_worth 15 = .ok (.invokevirtual 433, 3) := by decide +kernel
theorem dX8_worth_18 : decode cX8_worth 18 = .ok (.i2l, 1) := by decide +kernel
theorem dX8_worth_19 : decode cX8_worth 19 = .ok (.invokestatic 94, 3) := by decide +kernel
theorem dX8_worth_22 : decode cX8_worth 22 = .ok (.ifCond .eq 11, 3) := by decide +kernel
theorem dX8_worth_25 : decode cX8_worth 25 = .ok (.aload_n 0, 1) := by decide +kernel
theorem dX8_worth_26 : decode cX8_worth 26 = .ok (.iload_n 1, 1) := by decide +kernel
theorem dX8_worth_27 : decode cX8_worth 27 = .ok (.invokevirtual 436, 3) := by decide +kernel
theorem dX8_worth_30 : decode cX8_worth 30 = .ok (.goto 5, 3) := by decide +kernel
theorem dX8_worth_33 : decode cX8_worth 33 = .ok (.bipush (-2), 2) := by decide +kernel
theorem dX8_worth_35 : decode cX8_worth 35 = .ok (.ireturn, 1) := by decide +kernel
theorem dX8_factorial_0 : decode cX8_factorial 0 = .ok (.iconst 1, 1) := by decide +kernel
theorem dX8_factorial_1 : decode cX8_factorial 1 = .ok (.istore_n 1, 1) := by decide +kernel
theorem dX8_factorial_2 : decode cX8_factorial 2 = .ok (.iconst 2, 1) := by decide +kernel
theorem dX8_factorial_3 : decode cX8_factorial 3 = .ok (.istore_n 2, 1) := by decide +kernel
theorem dX8_factorial_4 : decode cX8_factorial 4 = .ok (.iload_n 2, 1) := by decide +kernel
theorem dX8_factorial_5 : decode cX8_factorial 5 = .ok (.iload_n 0, 1) := by decide +kernel
theorem dX8_factorial_6 : decode cX8_factorial 6 = .ok (.if_icmp .gt 13, 3) := by decide +kernel
theorem dX8_factorial_9 : decode cX8_factorial 9 = .ok (.iload_n 1, 1) := by decide +kernel
theorem dX8_factorial_10 : decode cX8_factorial 10 = .ok (.iload_n 2, 1) := by decide +kernel
theorem dX8_factorial_11 : decode cX8_factorial 11 = .ok (.imul, 1) := by decide +kernel
theorem dX8_factorial_12 : decode cX8_factorial 12 = .ok (.istore_n 1, 1) := by decide +kernel
theorem dX8_factorial_13 : decode cX8_factorial 13 = .ok (.iinc 2 1, 3) := by decide +kernel
theorem dX8_factorial_16 : decode cX8_factorial 16 = .ok (.goto (-12), 3) := by decide +kernel
theorem dX8_factorial_19 : decode cX8_factorial 19 = .ok (.iload_n 1, 1) := by decide +kernel
theorem dX8_factorial_20 : decode cX8_factorial 20 = .ok (.ireturn, 1) := by decide +kernel
theorem dX8_divisor_0 : decode cX8_divisor 0 = .ok (.lload_n 0, 1) := by decide +kernel
theorem dX8_divisor_1 : decode cX8_divisor 1 = .ok (.invokestatic 439, 3) := by decide +kernel
theorem dX8_divisor_4 : decode cX8_divisor 4 = .ok (.lstore 4, 2) := by decide +kernel
theorem dX8_divisor_6 : decode cX8_divisor 6 = .ok (.lload_n 2, 1) := by decide +kernel
theorem dX8_divisor_7 : decode cX8_divisor 7 = .ok (.lstore 6, 2) := by decide +kernel
theorem dX8_divisor_9 : decode cX8_divisor 9 = .ok (.lload 6, 2) := by decide +kernel
theorem dX8_divisor_11 : decode cX8_divisor 11 = .ok (.lconst 0, 1) := by decide +kernel
theorem dX8_divisor_12 : decode cX8_divisor 12 = .ok (.lcmp, 1) := by decide +kernel
theorem dX8_divisor_13 : decode cX8_divisor 13 = .ok (.ifCond .eq 21, 3) := by decide +kernel
theorem dX8_divisor_16 : decode cX8_divisor 16 = .ok (.lload 4, 2) := by decide +kernel
theorem dX8_divisor_18 : decode cX8_divisor 18 = .ok (.lload 6, 2) := by decide +kernel
theorem dX8_divisor_20 : decode cX8_divisor 20 = .ok (.lrem, 1) := by decide +kernel
theorem dX8_divisor_21 : decode cX8_divisor 21 = .ok (.lstore 8, 2) := by decide +kernel
theorem dX8_divisor_23 : decode cX8_divisor 23 = .ok (.lload 6, 2) := by decide +kernel
theorem dX8_divisor_25 : decode cX8_divisor 25 = .ok (.lstore 4, 2) := by decide +kernel
theorem dX8_divisor_27 : decode cX8_divisor 27 = .ok (.lload 8, 2) := by decide +kernel
theorem dX8_divisor_29 : decode cX8_divisor 29 = .ok (.lstore 6, 2) := by decide +kernel
theorem dX8_divisor_31 : decode cX8_divisor 31 = .ok (.goto (-22), 3) := by decide +kernel
theorem dX8_divisor_34 : decode cX8_divisor 34 = .ok (.lload 4, 2) := by decide +kernel
theorem dX8_divisor_36 : decode cX8_divisor 36 = .ok (.lreturn, 1) := by decide +kernel
theorem dX8_part_0 : decode cX8_part 0 = .ok (.iload 4, 2) := by decide +kernel
theorem dX8_part_2 : decode cX8_part 2 = .ok (.ifCond .ne 7, 3) := by decide +kernel
theorem dX8_part_5 : decode cX8_part 5 = .ok (.lload_n 0, 1) := by decide +kernel
theorem dX8_part_6 : decode cX8_part 6 = .ok (.goto 4, 3) := by decide +kernel
theorem dX8_part_9 : decode cX8_part 9 = .ok (.lload_n 2, 1) := by decide +kernel
theorem dX8_part_10 : decode cX8_part 10 = .ok (.lload_n 0, 1) := by decide +kernel
theorem dX8_part_11 : decode cX8_part 11 = .ok (.lload_n 2, 1) := by decide +kernel
theorem dX8_part_12 : decode cX8_part 12 = .ok (.invokestatic 443, 3) := by decide +kernel
theorem dX8_part_15 : decode cX8_part 15 = .ok (.ldiv, 1) := by decide +kernel
theorem dX8_part_16 : decode cX8_part 16 = .ok (.lreturn, 1) := by decide +kernel
theorem wd861 : Cond.constantLong RX8 428 (3) ∈ tblG := gw8 190 (by decide +kernel) (by decide +kernel)
theorem wd862 : Cond.methodLink RX8 430 yX8_insideBy ∈ tblG := gw8 231 (by decide +kernel) (by decide +kernel)
theorem wd863 : Cond.instanceMethod yX8_insideBy ∈ tblG := gw8 233 (by decide +kernel) (by decide +kernel)
theorem wd864 : Cond.selects RX8 yX8_insideBy yX8_insideBy ∈ tblG := gw0 117 (by decide +kernel) (by decide +kernel)
theorem wd865 : Cond.code yX8_insideBy cX8_insideBy 2 (some .int) ∈ tblG := gw8 234 (by decide +kernel) (by decide +kernel)
theorem pl_X8_insideBy : Plain yX8_insideBy 1 := ⟨by decide, by decide, by decide +kernel⟩
theorem lk_X8_430 : LkV RX8 430 8 yX8_insideBy cX8_insideBy 2 (some .int) 1 := ⟨⟨TX8, 41, rfl⟩, wd862, wd863, wd864, wd649, wd865, pl_X8_insideBy⟩
theorem wd866 : Cond.methodLink RX8 433 yX8_allPosts ∈ tblG := gw9 3 (by decide +kernel) (by decide +kernel)
theorem wd867 : Cond.instanceMethod yX8_allPosts ∈ tblG := gw9 5 (by decide +kernel) (by decide +kernel)
theorem wd868 : Cond.selects RX8 yX8_allPosts yX8_allPosts ∈ tblG := gw0 118 (by decide +kernel) (by decide +kernel)
theorem wd869 : Cond.code yX8_allPosts cX8_allPosts 1 (some .int) ∈ tblG := gw9 6 (by decide +kernel) (by decide +kernel)
theorem pl_X8_allPosts : Plain yX8_allPosts 0 := ⟨by decide, by decide, by decide +kernel⟩
theorem lk_X8_433 : LkV RX8 433 8 yX8_allPosts cX8_allPosts 1 (some .int) 0 := ⟨⟨TX8, 41, rfl⟩, wd866, wd867, wd868, wd649, wd869, pl_X8_allPosts⟩
theorem wd870 : Cond.methodLink RX8 436 yX8_worthOf ∈ tblG := gw9 7 (by decide +kernel) (by decide +kernel)
theorem wd871 : Cond.instanceMethod yX8_worthOf ∈ tblG := gw9 9 (by decide +kernel) (by decide +kernel)
theorem wd872 : Cond.selects RX8 yX8_worthOf yX8_worthOf ∈ tblG := gw0 119 (by decide +kernel) (by decide +kernel)
theorem wd873 : Cond.code yX8_worthOf cX8_worthOf 2 (some .int) ∈ tblG := gw9 10 (by decide +kernel) (by decide +kernel)
theorem pl_X8_worthOf : Plain yX8_worthOf 1 := ⟨by decide, by decide, by decide +kernel⟩
theorem lk_X8_436 : LkV RX8 436 8 yX8_worthOf cX8_worthOf 2 (some .int) 1 := ⟨⟨TX8, 41, rfl⟩, wd870, wd871, wd872, wd649, wd873, pl_X8_worthOf⟩
theorem wd874 : Cond.methodLink RX8 439 yJ9_abs_067f4 ∈ tblG := gw9 24 (by decide +kernel) (by decide +kernel)
theorem wd875 : Cond.methodLink RX8 443 yX8_divisor ∈ tblG := gw9 21 (by decide +kernel) (by decide +kernel)
theorem wd876 : Cond.static yX8_divisor ∈ tblG := gw9 22 (by decide +kernel) (by decide +kernel)
theorem wd877 : Cond.code yX8_divisor cX8_divisor 10 (some .long) ∈ tblG := gw9 23 (by decide +kernel) (by decide +kernel)
theorem pl_X8_divisor : Plain yX8_divisor 2 := ⟨by decide, by decide, by decide +kernel⟩
theorem lk_X8_443 : LkS RX8 443 yX8_divisor cX8_divisor 10 (some .long) 2 := ⟨wd875, wd876, wd649, wd877, pl_X8_divisor⟩
