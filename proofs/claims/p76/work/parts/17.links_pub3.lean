theorem dX1_forget_0 : decode cX1_forget 0 = .ok (.aload_n 0, 1) := by decide +kernel
theorem dX1_forget_1 : decode cX1_forget 1 = .ok (.iconst (-1), 1) := by decide +kernel
theorem dX1_forget_2 : decode cX1_forget 2 = .ok (.putfield 9, 3) := by decide +kernel
theorem dX1_forget_5 : decode cX1_forget 5 = .ok (.return_, 1) := by decide +kernel
theorem dX1_learn_0 : decode cX1_learn 0 = .ok (.aload_n 0, 1) := by decide +kernel
theorem dX1_learn_1 : decode cX1_learn 1 = .ok (.getfield 9, 3) := by decide +kernel
theorem dX1_learn_4 : decode cX1_learn 4 = .ok (.iload_n 2, 1) := by decide +kernel
theorem dX1_learn_5 : decode cX1_learn 5 = .ok (.if_icmp .ne 4, 3) := by decide +kernel
theorem dX1_learn_8 : decode cX1_learn 8 = .ok (.return_, 1) := by decide +kernel
theorem dX1_learn_9 : decode cX1_learn 9 = .ok (.aload_n 0, 1) := by decide +kernel
theorem dX1_learn_10 : decode cX1_learn 10 = .ok (.iload_n 2, 1) := by decide +kernel
theorem dX1_learn_11 : decode cX1_learn 11 = .ok (.putfield 9, 3) := by decide +kernel
theorem dX1_learn_14 : decode cX1_learn 14 = .ok (.aload_n 0, 1) := by decide +kernel
theorem dX1_learn_15 : decode cX1_learn 15 = .ok (.getfield 15, 3) := by decide +kernel
theorem dX1_learn_18 : decode cX1_learn 18 = .ok (.lconst 0, 1) := by decide +kernel
theorem dX1_learn_19 : decode cX1_learn 19 = .ok (.invokestatic 27, 3) := by decide +kernel
theorem dX1_learn_22 : decode cX1_learn 22 = .ok (.aload_n 0, 1) := by decide +kernel
theorem dX1_learn_23 : decode cX1_learn 23 = .ok (.lconst 1, 1) := by decide +kernel
theorem dX1_learn_24 : decode cX1_learn 24 = .ok (.putfield 19, 3) := by decide +kernel
theorem dX1_learn_27 : decode cX1_learn 27 = .ok (.iconst 0, 1) := by decide +kernel
theorem dX1_learn_28 : decode cX1_learn 28 = .ok (.istore_n 3, 1) := by decide +kernel
theorem dX1_learn_29 : decode cX1_learn 29 = .ok (.iload_n 3, 1) := by decide +kernel
theorem dX1_learn_30 : decode cX1_learn 30 = .ok (.iload_n 2, 1) := by decide +kernel
theorem dX1_learn_31 : decode cX1_learn 31 = .ok (.if_icmp .gt 21, 3) := by decide +kernel
theorem dX1_learn_34 : decode cX1_learn 34 = .ok (.aload_n 0, 1) := by decide +kernel
theorem dX1_learn_35 : decode cX1_learn 35 = .ok (.dup, 1) := by decide +kernel
theorem dX1_learn_36 : decode cX1_learn 36 = .ok (.getfield 19, 3) := by decide +kernel
theorem dX1_learn_39 : decode cX1_learn 39 = .ok (.ldc2_w 33, 3) := by decide +kernel
theorem dX1_learn_42 : decode cX1_learn 42 = .ok (.lmul, 1) := by decide +kernel
theorem dX1_learn_43 : decode cX1_learn 43 = .ok (.putfield 19, 3) := by decide +kernel
theorem dX1_learn_46 : decode cX1_learn 46 = .ok (.iinc 3 1, 3) := by decide +kernel
theorem dX1_learn_49 : decode cX1_learn 49 = .ok (.goto (-20), 3) := by decide +kernel
theorem dX1_learn_52 : decode cX1_learn 52 = .ok (.aload_n 1, 1) := by decide +kernel
theorem dX1_learn_53 : decode cX1_learn 53 = .ok (.invokevirtual 35, 3) := by decide +kernel
theorem dX1_learn_56 : decode cX1_learn 56 = .ok (.aload_n 1, 1) := by decide +kernel
theorem dX1_learn_57 : decode cX1_learn 57 = .ok (.invokevirtual 40, 3) := by decide +kernel
theorem dX1_learn_60 : decode cX1_learn 60 = .ok (.aload_n 0, 1) := by decide +kernel
theorem dX1_learn_61 : decode cX1_learn 61 = .ok (.aload_n 1, 1) := by decide +kernel
theorem dX1_learn_62 : decode cX1_learn 62 = .ok (.iconst 0, 1) := by decide +kernel
theorem dX1_learn_63 : decode cX1_learn 63 = .ok (.iload_n 2, 1) := by decide +kernel
theorem dX1_learn_64 : decode cX1_learn 64 = .ok (.lconst 1, 1) := by decide +kernel
theorem dX1_learn_65 : decode cX1_learn 65 = .ok (.invokestatic 43, 3) := by decide +kernel
theorem dX1_learn_68 : decode cX1_learn 68 = .ok (.return_, 1) := by decide +kernel
theorem dX1_branch_0 : decode cX1_branch 0 = .ok (.iload_n 2, 1) := by decide +kernel
theorem dX1_branch_1 : decode cX1_branch 1 = .ok (.iload_n 3, 1) := by decide +kernel
theorem dX1_branch_2 : decode cX1_branch 2 = .ok (.if_icmp .gt 9, 3) := by decide +kernel
theorem dX1_branch_5 : decode cX1_branch 5 = .ok (.iload_n 2, 1) := by decide +kernel
theorem dX1_branch_6 : decode cX1_branch 6 = .ok (.bipush 7, 2) := by decide +kernel
theorem dX1_branch_8 : decode cX1_branch 8 = .ok (.if_icmp .le 15, 3) := by decide +kernel
theorem dX1_branch_11 : decode cX1_branch 11 = .ok (.aload_n 0, 1) := by decide +kernel
theorem dX1_branch_12 : decode cX1_branch 12 = .ok (.aload_n 1, 1) := by decide +kernel
theorem dX1_branch_13 : decode cX1_branch 13 = .ok (.iload_n 2, 1) := by decide +kernel
theorem dX1_branch_14 : decode cX1_branch 14 = .ok (.invokevirtual 47, 3) := by decide +kernel
theorem dX1_branch_17 : decode cX1_branch 17 = .ok (.lload 4, 2) := by decide +kernel
theorem dX1_branch_19 : decode cX1_branch 19 = .ok (.invokevirtual 51, 3) := by decide +kernel
theorem dX1_branch_22 : decode cX1_branch 22 = .ok (.return_, 1) := by decide +kernel
theorem dX1_branch_23 : decode cX1_branch 23 = .ok (.aload_n 0, 1) := by decide +kernel
theorem dX1_branch_24 : decode cX1_branch 24 = .ok (.getfield 23, 3) := by decide +kernel
theorem dX1_branch_27 : decode cX1_branch 27 = .ok (.getfield 55, 3) := by decide +kernel
theorem dX1_branch_30 : decode cX1_branch 30 = .ok (.istore 6, 2) := by decide +kernel
theorem dX1_branch_32 : decode cX1_branch 32 = .ok (.iload 6, 2) := by decide +kernel
theorem dX1_branch_34 : decode cX1_branch 34 = .ok (.ifCond .le 35, 3) := by decide +kernel
theorem dX1_branch_37 : decode cX1_branch 37 = .ok (.aload_n 1, 1) := by decide +kernel
theorem dX1_branch_38 : decode cX1_branch 38 = .ok (.dup, 1) := by decide +kernel
theorem dX1_branch_39 : decode cX1_branch 39 = .ok (.getfield 60, 3) := by decide +kernel
theorem dX1_branch_42 : decode cX1_branch 42 = .ok (.iconst 1, 1) := by decide +kernel
theorem dX1_branch_43 : decode cX1_branch 43 = .ok (.iload_n 2, 1) := by decide +kernel
theorem dX1_branch_44 : decode cX1_branch 44 = .ok (.ishl, 1) := by decide +kernel
theorem dX1_branch_45 : decode cX1_branch 45 = .ok (.ior, 1) := by decide +kernel
theorem dX1_branch_46 : decode cX1_branch 46 = .ok (.putfield 60, 3) := by decide +kernel
theorem dX1_branch_49 : decode cX1_branch 49 = .ok (.aload_n 1, 1) := by decide +kernel
theorem dX1_branch_50 : decode cX1_branch 50 = .ok (.iload_n 2, 1) := by decide +kernel
theorem dX1_branch_51 : decode cX1_branch 51 = .ok (.invokevirtual 63, 3) := by decide +kernel
theorem dX1_branch_54 : decode cX1_branch 54 = .ok (.aload_n 0, 1) := by decide +kernel
theorem dX1_branch_55 : decode cX1_branch 55 = .ok (.aload_n 1, 1) := by decide +kernel
theorem dX1_branch_56 : decode cX1_branch 56 = .ok (.iload_n 2, 1) := by decide +kernel
theorem dX1_branch_57 : decode cX1_branch 57 = .ok (.iconst 1, 1) := by decide +kernel
theorem dX1_branch_58 : decode cX1_branch 58 = .ok (.iadd, 1) := by decide +kernel
theorem dX1_branch_59 : decode cX1_branch 59 = .ok (.iload_n 3, 1) := by decide +kernel
theorem dX1_branch_60 : decode cX1_branch 60 = .ok (.lload 4, 2) := by decide +kernel
theorem dX1_branch_62 : decode cX1_branch 62 = .ok (.iload 6, 2) := by decide +kernel
theorem dX1_branch_64 : decode cX1_branch 64 = .ok (.i2l, 1) := by decide +kernel
theorem dX1_branch_65 : decode cX1_branch 65 = .ok (.lmul, 1) := by decide +kernel
theorem dX1_branch_66 : decode cX1_branch 66 = .ok (.invokestatic 43, 3) := by decide +kernel
theorem dX1_branch_69 : decode cX1_branch 69 = .ok (.iload 6, 2) := by decide +kernel
theorem dX1_branch_71 : decode cX1_branch 71 = .ok (.bipush 10, 2) := by decide +kernel
theorem dX1_branch_73 : decode cX1_branch 73 = .ok (.if_icmp .ge 40, 3) := by decide +kernel
theorem dX1_branch_76 : decode cX1_branch 76 = .ok (.aload_n 1, 1) := by decide +kernel
theorem dX1_branch_77 : decode cX1_branch 77 = .ok (.dup, 1) := by decide +kernel
theorem dX1_branch_78 : decode cX1_branch 78 = .ok (.getfield 60, 3) := by decide +kernel
theorem dX1_branch_81 : decode cX1_branch 81 = .ok (.iconst 1, 1) := by decide +kernel
theorem dX1_branch_82 : decode cX1_branch 82 = .ok (.iload_n 2, 1) := by decide +kernel
theorem dX1_branch_83 : decode cX1_branch 83 = .ok (.ishl, 1) := by decide +kernel
theorem dX1_branch_84 : decode cX1_branch 84 = .ok (.iconst (-1), 1) := by decide +kernel
theorem dX1_branch_85 : decode cX1_branch 85 = .ok (.ixor, 1) := by decide +kernel
theorem dX1_branch_86 : decode cX1_branch 86 = .ok (.iand, 1) := by decide +kernel
theorem dX1_branch_87 : decode cX1_branch 87 = .ok (.putfield 60, 3) := by decide +kernel
theorem dX1_branch_90 : decode cX1_branch 90 = .ok (.aload_n 1, 1) := by decide +kernel
theorem dX1_branch_91 : decode cX1_branch 91 = .ok (.iload_n 2, 1) := by decide +kernel
theorem dX1_branch_92 : decode cX1_branch 92 = .ok (.invokevirtual 63, 3) := by decide +kernel
theorem dX1_branch_95 : decode cX1_branch 95 = .ok (.aload_n 0, 1) := by decide +kernel
theorem dX1_branch_96 : decode cX1_branch 96 = .ok (.aload_n 1, 1) := by decide +kernel
theorem dX1_branch_97 : decode cX1_branch 97 = .ok (.iload_n 2, 1) := by decide +kernel
theorem dX1_branch_98 : decode cX1_branch 98 = .ok (.iconst 1, 1) := by decide +kernel
theorem dX1_branch_99 : decode cX1_branch 99 = .ok (.iadd, 1) := by decide +kernel
theorem dX1_branch_100 : decode cX1_branch 100 = .ok (.iload_n 3, 1) := by decide +kernel
theorem dX1_branch_101 : decode cX1_branch 101 = .ok (.lload 4, 2) := by decide +kernel
theorem dX1_branch_103 : decode cX1_branch 103 = .ok (.bipush 10, 2) := by decide +kernel
theorem dX1_branch_105 : decode cX1_branch 105 = .ok (.iload 6, 2) := by decide +kernel
theorem dX1_branch_107 : decode cX1_branch 107 = .ok (.isub, 1) := by decide +kernel
theorem dX1_branch_108 : decode cX1_branch 108 = .ok (.i2l, 1) := by decide +kernel
theorem dX1_branch_109 : decode cX1_branch 109 = .ok (.lmul, 1) := by decide +kernel
theorem dX1_branch_110 : decode cX1_branch 110 = .ok (.invokestatic 43, 3) := by decide +kernel
theorem dX1_branch_113 : decode cX1_branch 113 = .ok (.return_, 1) := by decide +kernel
theorem dX1_addInside_0 : decode cX1_addInside 0 = .ok (.iconst 0, 1) := by decide +kernel
theorem dX1_addInside_1 : decode cX1_addInside 1 = .ok (.istore 4, 2) := by decide +kernel
theorem dX1_addInside_3 : decode cX1_addInside 3 = .ok (.iload 4, 2) := by decide +kernel
theorem dX1_addInside_5 : decode cX1_addInside 5 = .ok (.aload_n 0, 1) := by decide +kernel
theorem dX1_addInside_6 : decode cX1_addInside 6 = .ok (.getfield 23, 3) := by decide +kernel
theorem dX1_addInside_9 : decode cX1_addInside 9 = .ok (.getfield 67, 3) := by decide +kernel
theorem dX1_addInside_12 : decode cX1_addInside 12 = .ok (.if_icmp .ge 29, 3) := by decide +kernel
theorem dX1_addInside_15 : decode cX1_addInside 15 = .ok (.iload_n 1, 1) := by decide +kernel
theorem dX1_addInside_16 : decode cX1_addInside 16 = .ok (.iload 4, 2) := by decide +kernel
theorem dX1_addInside_18 : decode cX1_addInside 18 = .ok (.ishr, 1) := by decide +kernel
theorem dX1_addInside_19 : decode cX1_addInside 19 = .ok (.iconst 1, 1) := by decide +kernel
theorem dX1_addInside_20 : decode cX1_addInside 20 = .ok (.iand, 1) := by decide +kernel
theorem dX1_addInside_21 : decode cX1_addInside 21 = .ok (.ifCond .eq 14, 3) := by decide +kernel
theorem dX1_addInside_24 : decode cX1_addInside 24 = .ok (.aload_n 0, 1) := by decide +kernel
theorem dX1_addInside_25 : decode cX1_addInside 25 = .ok (.getfield 15, 3) := by decide +kernel
theorem dX1_addInside_28 : decode cX1_addInside 28 = .ok (.iload 4, 2) := by decide +kernel
theorem dX1_addInside_30 : decode cX1_addInside 30 = .ok (.dup2, 1) := by decide +kernel
theorem dX1_addInside_31 : decode cX1_addInside 31 = .ok (.laload, 1) := by decide +kernel
theorem dX1_addInside_32 : decode cX1_addInside 32 = .ok (.lload_n 2, 1) := by decide +kernel
theorem dX1_addInside_33 : decode cX1_addInside 33 = .ok (.ladd, 1) := by decide +kernel
theorem dX1_addInside_34 : decode cX1_addInside 34 = .ok (.lastore, 1) := by decide +kernel
theorem dX1_addInside_35 : decode cX1_addInside 35 = .ok (.iinc 4 1, 3) := by decide +kernel
theorem dX1_addInside_38 : decode cX1_addInside 38 = .ok (.goto (-35), 3) := by decide +kernel
theorem dX1_addInside_41 : decode cX1_addInside 41 = .ok (.return_, 1) := by decide +kernel
theorem dX1_drawnFrom_0 : decode cX1_drawnFrom 0 = .ok (.lload_n 1, 1) := by decide +kernel
theorem dX1_drawnFrom_1 : decode cX1_drawnFrom 1 = .ok (.lstore_n 3, 1) := by decide +kernel
theorem dX1_drawnFrom_2 : decode cX1_drawnFrom 2 = .ok (.iconst 0, 1) := by decide +kernel
theorem dX1_drawnFrom_3 : decode cX1_drawnFrom 3 = .ok (.istore 5, 2) := by decide +kernel
theorem dX1_drawnFrom_5 : decode cX1_drawnFrom 5 = .ok (.iconst 0, 1) := by decide +kernel
theorem dX1_drawnFrom_6 : decode cX1_drawnFrom 6 = .ok (.istore 6, 2) := by decide +kernel
theorem dX1_drawnFrom_8 : decode cX1_drawnFrom 8 = .ok (.iload 6, 2) := by decide +kernel
theorem dX1_drawnFrom_10 : decode cX1_drawnFrom 10 = .ok (.aload_n 0, 1) := by decide +kernel
theorem dX1_drawnFrom_11 : decode cX1_drawnFrom 11 = .ok (.getfield 23, 3) := by decide +kernel
theorem dX1_drawnFrom_14 : decode cX1_drawnFrom 14 = .ok (.getfield 70, 3) := by decide +kernel
theorem dX1_drawnFrom_17 : decode cX1_drawnFrom 17 = .ok (.if_icmp .ge 53, 3) := by decide +kernel
theorem dX1_drawnFrom_20 : decode cX1_drawnFrom 20 = .ok (.ldc2_w 73, 3) := by decide +kernel
theorem dX1_drawnFrom_23 : decode cX1_drawnFrom 23 = .ok (.lload_n 3, 1) := by decide +kernel
theorem dX1_drawnFrom_24 : decode cX1_drawnFrom 24 = .ok (.lmul, 1) := by decide +kernel
theorem dX1_drawnFrom_25 : decode cX1_drawnFrom 25 = .ok (.ldc2_w 75, 3) := by decide +kernel
theorem dX1_drawnFrom_28 : decode cX1_drawnFrom 28 = .ok (.ladd, 1) := by decide +kernel
theorem dX1_drawnFrom_29 : decode cX1_drawnFrom 29 = .ok (.ldc2_w 77, 3) := by decide +kernel
theorem dX1_drawnFrom_32 : decode cX1_drawnFrom 32 = .ok (.lrem, 1) := by decide +kernel
theorem dX1_drawnFrom_33 : decode cX1_drawnFrom 33 = .ok (.lstore_n 3, 1) := by decide +kernel
theorem dX1_drawnFrom_34 : decode cX1_drawnFrom 34 = .ok (.lload_n 3, 1) := by decide +kernel
theorem dX1_drawnFrom_35 : decode cX1_drawnFrom 35 = .ok (.ldc2_w 79, 3) := by decide +kernel
theorem dX1_drawnFrom_38 : decode cX1_drawnFrom 38 = .ok (.ldiv, 1) := by decide +kernel
theorem dX1_drawnFrom_39 : decode cX1_drawnFrom 39 = .ok (.ldc2_w 33, 3) := by decide +kernel
theorem dX1_drawnFrom_42 : decode cX1_drawnFrom 42 = .ok (.lrem, 1) := by decide +kernel
theorem dX1_drawnFrom_43 : decode cX1_drawnFrom 43 = .ok (.aload_n 0, 1) := by decide +kernel
theorem dX1_drawnFrom_44 : decode cX1_drawnFrom 44 = .ok (.getfield 23, 3) := by decide +kernel
theorem dX1_drawnFrom_47 : decode cX1_drawnFrom 47 = .ok (.getfield 55, 3) := by decide +kernel
theorem dX1_drawnFrom_50 : decode cX1_drawnFrom 50 = .ok (.i2l, 1) := by decide +kernel
theorem dX1_drawnFrom_51 : decode cX1_drawnFrom 51 = .ok (.lcmp, 1) := by decide +kernel
theorem dX1_drawnFrom_52 : decode cX1_drawnFrom 52 = .ok (.ifCond .ge 12, 3) := by decide +kernel
theorem dX1_drawnFrom_55 : decode cX1_drawnFrom 55 = .ok (.iload 5, 2) := by decide +kernel
theorem dX1_drawnFrom_57 : decode cX1_drawnFrom 57 = .ok (.iconst 1, 1) := by decide +kernel
theorem dX1_drawnFrom_58 : decode cX1_drawnFrom 58 = .ok (.iload 6, 2) := by decide +kernel
theorem dX1_drawnFrom_60 : decode cX1_drawnFrom 60 = .ok (.ishl, 1) := by decide +kernel
theorem dX1_drawnFrom_61 : decode cX1_drawnFrom 61 = .ok (.ior, 1) := by decide +kernel
theorem dX1_drawnFrom_62 : decode cX1_drawnFrom 62 = .ok (.istore 5, 2) := by decide +kernel
theorem dX1_drawnFrom_64 : decode cX1_drawnFrom 64 = .ok (.iinc 6 1, 3) := by decide +kernel
theorem dX1_drawnFrom_67 : decode cX1_drawnFrom 67 = .ok (.goto (-59), 3) := by decide +kernel
theorem dX1_drawnFrom_70 : decode cX1_drawnFrom 70 = .ok (.iload 5, 2) := by decide +kernel
theorem dX1_drawnFrom_72 : decode cX1_drawnFrom 72 = .ok (.ireturn, 1) := by decide +kernel
theorem dX7_feed_0 : decode cX7_feed 0 = .ok (.aload_n 0, 1) := by decide +kernel
theorem dX7_feed_1 : decode cX7_feed 1 = .ok (.getfield 12, 3) := by decide +kernel
theorem dX7_feed_4 : decode cX7_feed 4 = .ok (.getfield 73, 3) := by decide +kernel
theorem dX7_feed_7 : decode cX7_feed 7 = .ok (.sipush 780, 3) := by decide +kernel
theorem dX7_feed_10 : decode cX7_feed 10 = .ok (.if_icmp .le 5, 3) := by decide +kernel
theorem dX7_feed_13 : decode cX7_feed 13 = .ok (.iconst (-1), 1) := by decide +kernel
theorem dX7_feed_14 : decode cX7_feed 14 = .ok (.ireturn, 1) := by decide +kernel
theorem dX7_feed_15 : decode cX7_feed 15 = .ok (.aload_n 0, 1) := by decide +kernel
theorem dX7_feed_16 : decode cX7_feed 16 = .ok (.getfield 12, 3) := by decide +kernel
theorem dX7_feed_19 : decode cX7_feed 19 = .ok (.iload_n 1, 1) := by decide +kernel
theorem dX7_feed_20 : decode cX7_feed 20 = .ok (.invokevirtual 77, 3) := by decide +kernel
theorem dX7_feed_23 : decode cX7_feed 23 = .ok (.aload_n 0, 1) := by decide +kernel
theorem dX7_feed_24 : decode cX7_feed 24 = .ok (.getfield 12, 3) := by decide +kernel
theorem dX7_feed_27 : decode cX7_feed 27 = .ok (.iload_n 2, 1) := by decide +kernel
theorem dX7_feed_28 : decode cX7_feed 28 = .ok (.invokevirtual 77, 3) := by decide +kernel
theorem dX7_feed_31 : decode cX7_feed 31 = .ok (.aload_n 0, 1) := by decide +kernel
theorem dX7_feed_32 : decode cX7_feed 32 = .ok (.getfield 12, 3) := by decide +kernel
theorem dX7_feed_35 : decode cX7_feed 35 = .ok (.iload_n 3, 1) := by decide +kernel
theorem dX7_feed_36 : decode cX7_feed 36 = .ok (.invokevirtual 77, 3) := by decide +kernel
theorem dX7_feed_39 : decode cX7_feed 39 = .ok (.aload_n 0, 1) := by decide +kernel
theorem dX7_feed_40 : decode cX7_feed 40 = .ok (.getfield 12, 3) := by decide +kernel
theorem dX7_feed_43 : decode cX7_feed 43 = .ok (.iload 4, 2) := by decide +kernel
theorem dX7_feed_45 : decode cX7_feed 45 = .ok (.invokevirtual 77, 3) := by decide +kernel
theorem dX7_feed_48 : decode cX7_feed 48 = .ok (.aload_n 0, 1) := by decide +kernel
theorem dX7_feed_49 : decode cX7_feed 49 = .ok (.getfield 12, 3) := by decide +kernel
theorem dX7_feed_52 : decode cX7_feed 52 = .ok (.iload 5, 2) := by decide +kernel
theorem dX7_feed_54 : decode cX7_feed 54 = .ok (.invokevirtual 77, 3) := by decide +kernel
theorem dX7_feed_57 : decode cX7_feed 57 = .ok (.aload_n 0, 1) := by decide +kernel
theorem dX7_feed_58 : decode cX7_feed 58 = .ok (.getfield 12, 3) := by decide +kernel
theorem dX7_feed_61 : decode cX7_feed 61 = .ok (.getfield 73, 3) := by decide +kernel
theorem dX7_feed_64 : decode cX7_feed 64 = .ok (.ireturn, 1) := by decide +kernel
theorem dX7_end_0 : decode cX7_end 0 = .ok (.iload_n 1, 1) := by decide +kernel
theorem dX7_end_1 : decode cX7_end 1 = .ok (.ifCond .lt 14, 3) := by decide +kernel
theorem dX7_end_4 : decode cX7_end 4 = .ok (.iload_n 1, 1) := by decide +kernel
theorem dX7_end_5 : decode cX7_end 5 = .ok (.aload_n 0, 1) := by decide +kernel
theorem dX7_end_6 : decode cX7_end 6 = .ok (.getfield 12, 3) := by decide +kernel
theorem dX7_end_9 : decode cX7_end 9 = .ok (.getfield 73, 3) := by decide +kernel
theorem dX7_end_12 : decode cX7_end 12 = .ok (.if_icmp .le 5, 3) := by decide +kernel
theorem dX7_end_15 : decode cX7_end 15 = .ok (.iconst (-1), 1) := by decide +kernel
theorem dX7_end_16 : decode cX7_end 16 = .ok (.ireturn, 1) := by decide +kernel
theorem dX7_end_17 : decode cX7_end 17 = .ok (.aload_n 0, 1) := by decide +kernel
theorem dX7_end_18 : decode cX7_end 18 = .ok (.getfield 12, 3) := by decide +kernel
theorem dX7_end_21 : decode cX7_end 21 = .ok (.iload_n 1, 1) := by decide +kernel
theorem dX7_end_22 : decode cX7_end 22 = .ok (.putfield 73, 3) := by decide +kernel
theorem dX7_end_25 : decode cX7_end 25 = .ok (.iload_n 1, 1) := by decide +kernel
theorem dX7_end_26 : decode cX7_end 26 = .ok (.ireturn, 1) := by decide +kernel
theorem dX7_meet_0 : decode cX7_meet 0 = .ok (.aload_n 0, 1) := by decide +kernel
theorem dX7_meet_1 : decode cX7_meet 1 = .ok (.iload_n 1, 1) := by decide +kernel
theorem dX7_meet_2 : decode cX7_meet 2 = .ok (.iload_n 2, 1) := by decide +kernel
theorem dX7_meet_3 : decode cX7_meet 3 = .ok (.invokevirtual 212, 3) := by decide +kernel
theorem dX7_meet_6 : decode cX7_meet 6 = .ok (.ifCond .eq 15, 3) := by decide +kernel
theorem dX7_meet_9 : decode cX7_meet 9 = .ok (.aload_n 0, 1) := by decide +kernel
theorem dX7_meet_10 : decode cX7_meet 10 = .ok (.getfield 41, 3) := by decide +kernel
theorem dX7_meet_13 : decode cX7_meet 13 = .ok (.iload_n 1, 1) := by decide +kernel
theorem dX7_meet_14 : decode cX7_meet 14 = .ok (.iload_n 2, 1) := by decide +kernel
theorem dX7_meet_15 : decode cX7_meet 15 = .ok (.invokevirtual 216, 3) := by decide +kernel
theorem dX7_meet_18 : decode cX7_meet 18 = .ok (.goto 5, 3) := by decide +kernel
theorem dX7_meet_21 : decode cX7_meet 21 = .ok (.bipush (-2), 2) := by decide +kernel
theorem dX7_meet_23 : decode cX7_meet 23 = .ok (.ireturn, 1) := by decide +kernel
theorem dX7_nth_0 : decode cX7_nth 0 = .ok (.aload_n 0, 1) := by decide +kernel
theorem dX7_nth_1 : decode cX7_nth 1 = .ok (.getfield 19, 3) := by decide +kernel
theorem dX7_nth_4 : decode cX7_nth 4 = .ok (.iload_n 1, 1) := by decide +kernel
theorem dX7_nth_5 : decode cX7_nth 5 = .ok (.invokevirtual 106, 3) := by decide +kernel
theorem dX7_nth_8 : decode cX7_nth 8 = .ok (.ifCond .eq 10, 3) := by decide +kernel
theorem dX7_nth_11 : decode cX7_nth 11 = .ok (.iload_n 2, 1) := by decide +kernel
theorem dX7_nth_12 : decode cX7_nth 12 = .ok (.invokestatic 246, 3) := by decide +kernel
theorem dX7_nth_15 : decode cX7_nth 15 = .ok (.ifCond .ne 6, 3) := by decide +kernel
theorem dX7_nth_18 : decode cX7_nth 18 = .ok (.bipush (-2), 2) := by decide +kernel
theorem dX7_nth_20 : decode cX7_nth 20 = .ok (.ireturn, 1) := by decide +kernel
theorem dX7_nth_21 : decode cX7_nth 21 = .ok (.aload_n 0, 1) := by decide +kernel
theorem dX7_nth_22 : decode cX7_nth 22 = .ok (.getfield 51, 3) := by decide +kernel
theorem dX7_nth_25 : decode cX7_nth 25 = .ok (.invokevirtual 234, 3) := by decide +kernel
theorem dX7_nth_28 : decode cX7_nth 28 = .ok (.iconst (-1), 1) := by decide +kernel
theorem dX7_nth_29 : decode cX7_nth 29 = .ok (.istore_n 3, 1) := by decide +kernel
theorem dX7_nth_30 : decode cX7_nth 30 = .ok (.iconst 0, 1) := by decide +kernel
theorem dX7_nth_31 : decode cX7_nth 31 = .ok (.istore 4, 2) := by decide +kernel
theorem dX7_nth_33 : decode cX7_nth 33 = .ok (.iload 4, 2) := by decide +kernel
theorem dX7_nth_35 : decode cX7_nth 35 = .ok (.iload_n 2, 1) := by decide +kernel
theorem dX7_nth_36 : decode cX7_nth 36 = .ok (.if_icmp .ge 25, 3) := by decide +kernel
theorem dX7_nth_39 : decode cX7_nth 39 = .ok (.aload_n 0, 1) := by decide +kernel
theorem dX7_nth_40 : decode cX7_nth 40 = .ok (.getfield 51, 3) := by decide +kernel
theorem dX7_nth_43 : decode cX7_nth 43 = .ok (.iload_n 1, 1) := by decide +kernel
theorem dX7_nth_44 : decode cX7_nth 44 = .ok (.invokevirtual 237, 3) := by decide +kernel
theorem dX7_nth_47 : decode cX7_nth 47 = .ok (.istore_n 3, 1) := by decide +kernel
theorem dX7_nth_48 : decode cX7_nth 48 = .ok (.iload_n 3, 1) := by decide +kernel
theorem dX7_nth_49 : decode cX7_nth 49 = .ok (.iconst (-1), 1) := by decide +kernel
theorem dX7_nth_50 : decode cX7_nth 50 = .ok (.if_icmp .ne 5, 3) := by decide +kernel
theorem dX7_nth_53 : decode cX7_nth 53 = .ok (.iconst (-1), 1) := by decide +kernel
theorem dX7_nth_54 : decode cX7_nth 54 = .ok (.ireturn, 1) := by decide +kernel
theorem dX7_nth_55 : decode cX7_nth 55 = .ok (.iinc 4 1, 3) := by decide +kernel
theorem dX7_nth_58 : decode cX7_nth 58 = .ok (.goto (-25), 3) := by decide +kernel
theorem dX7_nth_61 : decode cX7_nth 61 = .ok (.iload_n 3, 1) := by decide +kernel
theorem dX7_nth_62 : decode cX7_nth 62 = .ok (.ireturn, 1) := by decide +kernel
theorem dX7_round_0 : decode cX7_round 0 = .ok (.aload_n 0, 1) := by decide +kernel
theorem dX7_round_1 : decode cX7_round 1 = .ok (.getfield 19, 3) := by decide +kernel
theorem dX7_round_4 : decode cX7_round 4 = .ok (.iload_n 1, 1) := by decide +kernel
theorem dX7_round_5 : decode cX7_round 5 = .ok (.invokevirtual 106, 3) := by decide +kernel
theorem dX7_round_8 : decode cX7_round 8 = .ok (.ifCond .ne 6, 3) := by decide +kernel
theorem dX7_round_11 : decode cX7_round 11 = .ok (.bipush (-2), 2) := by decide +kernel
theorem dX7_round_13 : decode cX7_round 13 = .ok (.ireturn, 1) := by decide +kernel
theorem dX7_round_14 : decode cX7_round 14 = .ok (.aload_n 0, 1) := by decide +kernel
theorem dX7_round_15 : decode cX7_round 15 = .ok (.getfield 51, 3) := by decide +kernel
theorem dX7_round_18 : decode cX7_round 18 = .ok (.invokevirtual 234, 3) := by decide +kernel
theorem dX7_round_21 : decode cX7_round 21 = .ok (.aload_n 0, 1) := by decide +kernel
theorem dX7_round_22 : decode cX7_round 22 = .ok (.getfield 51, 3) := by decide +kernel
theorem dX7_round_25 : decode cX7_round 25 = .ok (.invokevirtual 243, 3) := by decide +kernel
theorem dX7_round_28 : decode cX7_round 28 = .ok (.istore_n 2, 1) := by decide +kernel
theorem dX7_round_29 : decode cX7_round 29 = .ok (.iconst 1, 1) := by decide +kernel
theorem dX7_round_30 : decode cX7_round 30 = .ok (.istore_n 3, 1) := by decide +kernel
theorem dX7_round_31 : decode cX7_round 31 = .ok (.iload_n 3, 1) := by decide +kernel
theorem dX7_round_32 : decode cX7_round 32 = .ok (.bipush 60, 2) := by decide +kernel
theorem dX7_round_34 : decode cX7_round 34 = .ok (.if_icmp .gt 36, 3) := by decide +kernel
theorem dX7_round_37 : decode cX7_round 37 = .ok (.aload_n 0, 1) := by decide +kernel
theorem dX7_round_38 : decode cX7_round 38 = .ok (.getfield 51, 3) := by decide +kernel
theorem dX7_round_41 : decode cX7_round 41 = .ok (.iload_n 1, 1) := by decide +kernel
theorem dX7_round_42 : decode cX7_round 42 = .ok (.invokevirtual 237, 3) := by decide +kernel
theorem dX7_round_45 : decode cX7_round 45 = .ok (.iconst (-1), 1) := by decide +kernel
theorem dX7_round_46 : decode cX7_round 46 = .ok (.if_icmp .ne 5, 3) := by decide +kernel
theorem dX7_round_49 : decode cX7_round 49 = .ok (.iconst (-1), 1) := by decide +kernel
theorem dX7_round_50 : decode cX7_round 50 = .ok (.ireturn, 1) := by decide +kernel
theorem dX7_round_51 : decode cX7_round 51 = .ok (.aload_n 0, 1) := by decide +kernel
theorem dX7_round_52 : decode cX7_round 52 = .ok (.getfield 51, 3) := by decide +kernel
theorem dX7_round_55 : decode cX7_round 55 = .ok (.invokevirtual 243, 3) := by decide +kernel
theorem dX7_round_58 : decode cX7_round 58 = .ok (.iload_n 2, 1) := by decide +kernel
theorem dX7_round_59 : decode cX7_round 59 = .ok (.if_icmp .ne 5, 3) := by decide +kernel
theorem dX7_round_62 : decode cX7_round 62 = .ok (.iload_n 3, 1) := by decide +kernel
theorem dX7_round_63 : decode cX7_round 63 = .ok (.ireturn, 1) := by decide +kernel
theorem dX7_round_64 : decode cX7_round 64 = .ok (.iinc 3 1, 3) := by decide +kernel
theorem dX7_round_67 : decode cX7_round 67 = .ok (.goto (-36), 3) := by decide +kernel
theorem dX7_round_70 : decode cX7_round 70 = .ok (.iconst (-1), 1) := by decide +kernel
theorem dX7_round_71 : decode cX7_round 71 = .ok (.ireturn, 1) := by decide +kernel
theorem dX7_houses_0 : decode cX7_houses 0 = .ok (.aload_n 0, 1) := by decide +kernel
theorem dX7_houses_1 : decode cX7_houses 1 = .ok (.getfield 19, 3) := by decide +kernel
theorem dX7_houses_4 : decode cX7_houses 4 = .ok (.iload_n 1, 1) := by decide +kernel
theorem dX7_houses_5 : decode cX7_houses 5 = .ok (.invokevirtual 106, 3) := by decide +kernel
theorem dX7_houses_8 : decode cX7_houses 8 = .ok (.ifCond .eq 21, 3) := by decide +kernel
theorem dX7_houses_11 : decode cX7_houses 11 = .ok (.iload_n 2, 1) := by decide +kernel
theorem dX7_houses_12 : decode cX7_houses 12 = .ok (.invokestatic 246, 3) := by decide +kernel
theorem dX7_houses_15 : decode cX7_houses 15 = .ok (.ifCond .eq 14, 3) := by decide +kernel
theorem dX7_houses_18 : decode cX7_houses 18 = .ok (.aload_n 0, 1) := by decide +kernel
theorem dX7_houses_19 : decode cX7_houses 19 = .ok (.getfield 19, 3) := by decide +kernel
theorem dX7_houses_22 : decode cX7_houses 22 = .ok (.iload_n 3, 1) := by decide +kernel
theorem dX7_houses_23 : decode cX7_houses 23 = .ok (.invokevirtual 99, 3) := by decide +kernel
theorem dX7_houses_26 : decode cX7_houses 26 = .ok (.ifCond .ne 6, 3) := by decide +kernel
theorem dX7_houses_29 : decode cX7_houses 29 = .ok (.bipush (-2), 2) := by decide +kernel
theorem dX7_houses_31 : decode cX7_houses 31 = .ok (.ireturn, 1) := by decide +kernel
theorem dX7_houses_32 : decode cX7_houses 32 = .ok (.aload_n 0, 1) := by decide +kernel
theorem dX7_houses_33 : decode cX7_houses 33 = .ok (.getfield 51, 3) := by decide +kernel
theorem dX7_houses_36 : decode cX7_houses 36 = .ok (.invokevirtual 234, 3) := by decide +kernel
theorem dX7_houses_39 : decode cX7_houses 39 = .ok (.iconst 0, 1) := by decide +kernel
theorem dX7_houses_40 : decode cX7_houses 40 = .ok (.istore 4, 2) := by decide +kernel
theorem dX7_houses_42 : decode cX7_houses 42 = .ok (.iconst 0, 1) := by decide +kernel
theorem dX7_houses_43 : decode cX7_houses 43 = .ok (.istore 5, 2) := by decide +kernel
theorem dX7_houses_45 : decode cX7_houses 45 = .ok (.iload 5, 2) := by decide +kernel
theorem dX7_houses_47 : decode cX7_houses 47 = .ok (.iload_n 2, 1) := by decide +kernel
theorem dX7_houses_48 : decode cX7_houses 48 = .ok (.if_icmp .ge 36, 3) := by decide +kernel
theorem dX7_houses_51 : decode cX7_houses 51 = .ok (.aload_n 0, 1) := by decide +kernel
theorem dX7_houses_52 : decode cX7_houses 52 = .ok (.getfield 51, 3) := by decide +kernel
theorem dX7_houses_55 : decode cX7_houses 55 = .ok (.iload_n 1, 1) := by decide +kernel
theorem dX7_houses_56 : decode cX7_houses 56 = .ok (.invokevirtual 237, 3) := by decide +kernel
theorem dX7_houses_59 : decode cX7_houses 59 = .ok (.istore 6, 2) := by decide +kernel
theorem dX7_houses_61 : decode cX7_houses 61 = .ok (.iload 6, 2) := by decide +kernel
theorem dX7_houses_63 : decode cX7_houses 63 = .ok (.iconst (-1), 1) := by decide +kernel
theorem dX7_houses_64 : decode cX7_houses 64 = .ok (.if_icmp .ne 5, 3) := by decide +kernel
theorem dX7_houses_67 : decode cX7_houses 67 = .ok (.iconst (-1), 1) := by decide +kernel
theorem dX7_houses_68 : decode cX7_houses 68 = .ok (.ireturn, 1) := by decide +kernel
theorem dX7_houses_69 : decode cX7_houses 69 = .ok (.iload 6, 2) := by decide +kernel
theorem dX7_houses_71 : decode cX7_houses 71 = .ok (.iload_n 3, 1) := by decide +kernel
theorem dX7_houses_72 : decode cX7_houses 72 = .ok (.if_icmp .ne 6, 3) := by decide +kernel
theorem dX7_houses_75 : decode cX7_houses 75 = .ok (.iinc 4 1, 3) := by decide +kernel
theorem dX7_houses_78 : decode cX7_houses 78 = .ok (.iinc 5 1, 3) := by decide +kernel
theorem dX7_houses_81 : decode cX7_houses 81 = .ok (.goto (-36), 3) := by decide +kernel
theorem dX7_houses_84 : decode cX7_houses 84 = .ok (.iload 4, 2) := by decide +kernel
theorem dX7_houses_86 : decode cX7_houses 86 = .ok (.ireturn, 1) := by decide +kernel
theorem dX7_trees_0 : decode cX7_trees 0 = .ok (.aload_n 0, 1) := by decide +kernel
theorem dX7_trees_1 : decode cX7_trees 1 = .ok (.getfield 19, 3) := by decide +kernel
theorem dX7_trees_4 : decode cX7_trees 4 = .ok (.invokevirtual 198, 3) := by decide +kernel
theorem dX7_trees_7 : decode cX7_trees 7 = .ok (.ifCond .ne 6, 3) := by decide +kernel
theorem dX7_trees_10 : decode cX7_trees 10 = .ok (.bipush (-2), 2) := by decide +kernel
theorem dX7_trees_12 : decode cX7_trees 12 = .ok (.ireturn, 1) := by decide +kernel
theorem dX7_trees_13 : decode cX7_trees 13 = .ok (.aload_n 0, 1) := by decide +kernel
theorem dX7_trees_14 : decode cX7_trees 14 = .ok (.getfield 19, 3) := by decide +kernel
theorem dX7_trees_17 : decode cX7_trees 17 = .ok (.invokevirtual 231, 3) := by decide +kernel
theorem dX7_trees_20 : decode cX7_trees 20 = .ok (.istore_n 1, 1) := by decide +kernel
theorem dX7_trees_21 : decode cX7_trees 21 = .ok (.iload_n 1, 1) := by decide +kernel
theorem dX7_trees_22 : decode cX7_trees 22 = .ok (.sipush 4096, 3) := by decide +kernel
theorem dX7_trees_25 : decode cX7_trees 25 = .ok (.if_icmp .le 6, 3) := by decide +kernel
theorem dX7_trees_28 : decode cX7_trees 28 = .ok (.bipush (-3), 2) := by decide +kernel
theorem dX7_trees_30 : decode cX7_trees 30 = .ok (.ireturn, 1) := by decide +kernel
theorem dX7_trees_31 : decode cX7_trees 31 = .ok (.iconst 0, 1) := by decide +kernel
theorem dX7_trees_32 : decode cX7_trees 32 = .ok (.istore_n 2, 1) := by decide +kernel
theorem dX7_trees_33 : decode cX7_trees 33 = .ok (.iconst 0, 1) := by decide +kernel
theorem dX7_trees_34 : decode cX7_trees 34 = .ok (.istore_n 3, 1) := by decide +kernel
theorem dX7_trees_35 : decode cX7_trees 35 = .ok (.iload_n 3, 1) := by decide +kernel
theorem dX7_trees_36 : decode cX7_trees 36 = .ok (.iload_n 1, 1) := by decide +kernel
theorem dX7_trees_37 : decode cX7_trees 37 = .ok (.if_icmp .ge 38, 3) := by decide +kernel
theorem dX7_trees_40 : decode cX7_trees 40 = .ok (.aload_n 0, 1) := by decide +kernel
theorem dX7_trees_41 : decode cX7_trees 41 = .ok (.getfield 51, 3) := by decide +kernel
theorem dX7_trees_44 : decode cX7_trees 44 = .ok (.iload_n 3, 1) := by decide +kernel
theorem dX7_trees_45 : decode cX7_trees 45 = .ok (.invokevirtual 260, 3) := by decide +kernel
theorem dX7_trees_48 : decode cX7_trees 48 = .ok (.aload_n 0, 1) := by decide +kernel
theorem dX7_trees_49 : decode cX7_trees 49 = .ok (.getfield 19, 3) := by decide +kernel
theorem dX7_trees_52 : decode cX7_trees 52 = .ok (.aload_n 0, 1) := by decide +kernel
theorem dX7_trees_53 : decode cX7_trees 53 = .ok (.getfield 51, 3) := by decide +kernel
theorem dX7_trees_56 : decode cX7_trees 56 = .ok (.getfield 263, 3) := by decide +kernel
theorem dX7_trees_59 : decode cX7_trees 59 = .ok (.iconst 0, 1) := by decide +kernel
theorem dX7_trees_60 : decode cX7_trees 60 = .ok (.invokevirtual 252, 3) := by decide +kernel
theorem dX7_trees_63 : decode cX7_trees 63 = .ok (.ifCond .eq 6, 3) := by decide +kernel
theorem dX7_trees_66 : decode cX7_trees 66 = .ok (.iinc 2 1, 3) := by decide +kernel
theorem dX7_trees_69 : decode cX7_trees 69 = .ok (.iinc 3 1, 3) := by decide +kernel
theorem dX7_trees_72 : decode cX7_trees 72 = .ok (.goto (-37), 3) := by decide +kernel
theorem dX7_trees_75 : decode cX7_trees 75 = .ok (.iload_n 2, 1) := by decide +kernel
theorem dX7_trees_76 : decode cX7_trees 76 = .ok (.ireturn, 1) := by decide +kernel
theorem dX7_rests_0 : decode cX7_rests 0 = .ok (.aload_n 0, 1) := by decide +kernel
theorem dX7_rests_1 : decode cX7_rests 1 = .ok (.iload_n 1, 1) := by decide +kernel
theorem dX7_rests_2 : decode cX7_rests 2 = .ok (.iload_n 2, 1) := by decide +kernel
theorem dX7_rests_3 : decode cX7_rests 3 = .ok (.invokevirtual 212, 3) := by decide +kernel
theorem dX7_rests_6 : decode cX7_rests 6 = .ok (.ifCond .ne 6, 3) := by decide +kernel
theorem dX7_rests_9 : decode cX7_rests 9 = .ok (.bipush (-2), 2) := by decide +kernel
theorem dX7_rests_11 : decode cX7_rests 11 = .ok (.ireturn, 1) := by decide +kernel
theorem dX7_rests_12 : decode cX7_rests 12 = .ok (.iconst 0, 1) := by decide +kernel
theorem dX7_rests_13 : decode cX7_rests 13 = .ok (.istore_n 3, 1) := by decide +kernel
theorem dX7_rests_14 : decode cX7_rests 14 = .ok (.iconst 0, 1) := by decide +kernel
theorem dX7_rests_15 : decode cX7_rests 15 = .ok (.istore 4, 2) := by decide +kernel
theorem dX7_rests_17 : decode cX7_rests 17 = .ok (.iload 4, 2) := by decide +kernel
theorem dX7_rests_19 : decode cX7_rests 19 = .ok (.iconst 4, 1) := by decide +kernel
theorem dX7_rests_20 : decode cX7_rests 20 = .ok (.if_icmp .ge 102, 3) := by decide +kernel
theorem dX7_rests_23 : decode cX7_rests 23 = .ok (.iload 4, 2) := by decide +kernel
theorem dX7_rests_25 : decode cX7_rests 25 = .ok (.iconst 1, 1) := by decide +kernel
theorem dX7_rests_26 : decode cX7_rests 26 = .ok (.iand, 1) := by decide +kernel
theorem dX7_rests_27 : decode cX7_rests 27 = .ok (.istore 5, 2) := by decide +kernel
theorem dX7_rests_29 : decode cX7_rests 29 = .ok (.iload 4, 2) := by decide +kernel
theorem dX7_rests_31 : decode cX7_rests 31 = .ok (.iconst 1, 1) := by decide +kernel
theorem dX7_rests_32 : decode cX7_rests 32 = .ok (.ishr, 1) := by decide +kernel
theorem dX7_rests_33 : decode cX7_rests 33 = .ok (.istore 6, 2) := by decide +kernel
theorem dX7_rests_35 : decode cX7_rests 35 = .ok (.aload_n 0, 1) := by decide +kernel
theorem dX7_rests_36 : decode cX7_rests 36 = .ok (.iload_n 1, 1) := by decide +kernel
theorem dX7_rests_37 : decode cX7_rests 37 = .ok (.iload_n 2, 1) := by decide +kernel
theorem dX7_rests_38 : decode cX7_rests 38 = .ok (.iload 5, 2) := by decide +kernel
theorem dX7_rests_40 : decode cX7_rests 40 = .ok (.iload 6, 2) := by decide +kernel
theorem dX7_rests_42 : decode cX7_rests 42 = .ok (.invokevirtual 323, 3) := by decide +kernel
theorem dX7_rests_45 : decode cX7_rests 45 = .ok (.aload_n 0, 1) := by decide +kernel
theorem dX7_rests_46 : decode cX7_rests 46 = .ok (.iload_n 1, 1) := by decide +kernel
theorem dX7_rests_47 : decode cX7_rests 47 = .ok (.iload_n 2, 1) := by decide +kernel
theorem dX7_rests_48 : decode cX7_rests 48 = .ok (.iconst 1, 1) := by decide +kernel
theorem dX7_rests_49 : decode cX7_rests 49 = .ok (.iload 5, 2) := by decide +kernel
theorem dX7_rests_51 : decode cX7_rests 51 = .ok (.isub, 1) := by decide +kernel
theorem dX7_rests_52 : decode cX7_rests 52 = .ok (.iload 6, 2) := by decide +kernel
theorem dX7_rests_54 : decode cX7_rests 54 = .ok (.invokevirtual 323, 3) := by decide +kernel
theorem dX7_rests_57 : decode cX7_rests 57 = .ok (.if_icmp .lt 7, 3) := by decide +kernel
theorem dX7_rests_60 : decode cX7_rests 60 = .ok (.iconst 1, 1) := by decide +kernel
theorem dX7_rests_61 : decode cX7_rests 61 = .ok (.goto 4, 3) := by decide +kernel
theorem dX7_rests_64 : decode cX7_rests 64 = .ok (.iconst 0, 1) := by decide +kernel
theorem dX7_rests_65 : decode cX7_rests 65 = .ok (.istore 7, 2) := by decide +kernel
theorem dX7_rests_67 : decode cX7_rests 67 = .ok (.aload_n 0, 1) := by decide +kernel
theorem dX7_rests_68 : decode cX7_rests 68 = .ok (.iload_n 2, 1) := by decide +kernel
theorem dX7_rests_69 : decode cX7_rests 69 = .ok (.iload_n 1, 1) := by decide +kernel
theorem dX7_rests_70 : decode cX7_rests 70 = .ok (.iload 6, 2) := by decide +kernel
theorem dX7_rests_72 : decode cX7_rests 72 = .ok (.iload 5, 2) := by decide +kernel
theorem dX7_rests_74 : decode cX7_rests 74 = .ok (.invokevirtual 323, 3) := by decide +kernel
theorem dX7_rests_77 : decode cX7_rests 77 = .ok (.aload_n 0, 1) := by decide +kernel
theorem dX7_rests_78 : decode cX7_rests 78 = .ok (.iload_n 2, 1) := by decide +kernel
theorem dX7_rests_79 : decode cX7_rests 79 = .ok (.iload_n 1, 1) := by decide +kernel
theorem dX7_rests_80 : decode cX7_rests 80 = .ok (.iconst 1, 1) := by decide +kernel
theorem dX7_rests_81 : decode cX7_rests 81 = .ok (.iload 6, 2) := by decide +kernel
theorem dX7_rests_83 : decode cX7_rests 83 = .ok (.isub, 1) := by decide +kernel
theorem dX7_rests_84 : decode cX7_rests 84 = .ok (.iload 5, 2) := by decide +kernel
theorem dX7_rests_86 : decode cX7_rests 86 = .ok (.invokevirtual 323, 3) := by decide +kernel
theorem dX7_rests_89 : decode cX7_rests 89 = .ok (.if_icmp .lt 7, 3) := by decide +kernel
theorem dX7_rests_92 : decode cX7_rests 92 = .ok (.iconst 1, 1) := by decide +kernel
theorem dX7_rests_93 : decode cX7_rests 93 = .ok (.goto 4, 3) := by decide +kernel
theorem dX7_rests_96 : decode cX7_rests 96 = .ok (.iconst 0, 1) := by decide +kernel
theorem dX7_rests_97 : decode cX7_rests 97 = .ok (.istore 8, 2) := by decide +kernel
theorem dX7_rests_99 : decode cX7_rests 99 = .ok (.iload 7, 2) := by decide +kernel
theorem dX7_rests_101 : decode cX7_rests 101 = .ok (.ifCond .eq 15, 3) := by decide +kernel
theorem dX7_rests_104 : decode cX7_rests 104 = .ok (.iload 8, 2) := by decide +kernel
theorem dX7_rests_106 : decode cX7_rests 106 = .ok (.ifCond .eq 10, 3) := by decide +kernel
theorem dX7_rests_109 : decode cX7_rests 109 = .ok (.iload_n 3, 1) := by decide +kernel
theorem dX7_rests_110 : decode cX7_rests 110 = .ok (.iconst 1, 1) := by decide +kernel
theorem dX7_rests_111 : decode cX7_rests 111 = .ok (.iload 4, 2) := by decide +kernel
theorem dX7_rests_113 : decode cX7_rests 113 = .ok (.ishl, 1) := by decide +kernel
theorem dX7_rests_114 : decode cX7_rests 114 = .ok (.ior, 1) := by decide +kernel
theorem dX7_rests_115 : decode cX7_rests 115 = .ok (.istore_n 3, 1) := by decide +kernel
theorem dX7_rests_116 : decode cX7_rests 116 = .ok (.iinc 4 1, 3) := by decide +kernel
theorem dX7_rests_119 : decode cX7_rests 119 = .ok (.goto (-102), 3) := by decide +kernel
theorem dX7_rests_122 : decode cX7_rests 122 = .ok (.iload_n 3, 1) := by decide +kernel
theorem dX7_rests_123 : decode cX7_rests 123 = .ok (.ireturn, 1) := by decide +kernel
theorem dX7_gets_0 : decode cX7_gets 0 = .ok (.aload_n 0, 1) := by decide +kernel
theorem dX7_gets_1 : decode cX7_gets 1 = .ok (.iload_n 1, 1) := by decide +kernel
theorem dX7_gets_2 : decode cX7_gets 2 = .ok (.iload_n 2, 1) := by decide +kernel
theorem dX7_gets_3 : decode cX7_gets 3 = .ok (.invokevirtual 212, 3) := by decide +kernel
theorem dX7_gets_6 : decode cX7_gets 6 = .ok (.ifCond .eq 18, 3) := by decide +kernel
theorem dX7_gets_9 : decode cX7_gets 9 = .ok (.iload_n 3, 1) := by decide +kernel
theorem dX7_gets_10 : decode cX7_gets 10 = .ok (.invokestatic 125, 3) := by decide +kernel
theorem dX7_gets_13 : decode cX7_gets 13 = .ok (.ifCond .eq 11, 3) := by decide +kernel
theorem dX7_gets_16 : decode cX7_gets 16 = .ok (.iload 4, 2) := by decide +kernel
theorem dX7_gets_18 : decode cX7_gets 18 = .ok (.invokestatic 125, 3) := by decide +kernel
theorem dX7_gets_21 : decode cX7_gets 21 = .ok (.ifCond .ne 7, 3) := by decide +kernel
theorem dX7_gets_24 : decode cX7_gets 24 = .ok (.sipush (-1000), 3) := by decide +kernel
theorem dX7_gets_27 : decode cX7_gets 27 = .ok (.ireturn, 1) := by decide +kernel
theorem dX7_gets_28 : decode cX7_gets 28 = .ok (.aload_n 0, 1) := by decide +kernel
theorem dX7_gets_29 : decode cX7_gets 29 = .ok (.iload_n 1, 1) := by decide +kernel
theorem dX7_gets_30 : decode cX7_gets 30 = .ok (.iload_n 2, 1) := by decide +kernel
theorem dX7_gets_31 : decode cX7_gets 31 = .ok (.iload_n 3, 1) := by decide +kernel
theorem dX7_gets_32 : decode cX7_gets 32 = .ok (.iload 4, 2) := by decide +kernel
theorem dX7_gets_34 : decode cX7_gets 34 = .ok (.invokevirtual 323, 3) := by decide +kernel
theorem dX7_gets_37 : decode cX7_gets 37 = .ok (.ireturn, 1) := by decide +kernel
theorem dX7_chance_0 : decode cX7_chance 0 = .ok (.aload_n 0, 1) := by decide +kernel
theorem dX7_chance_1 : decode cX7_chance 1 = .ok (.getfield 19, 3) := by decide +kernel
theorem dX7_chance_4 : decode cX7_chance 4 = .ok (.iload_n 1, 1) := by decide +kernel
theorem dX7_chance_5 : decode cX7_chance 5 = .ok (.invokevirtual 122, 3) := by decide +kernel
theorem dX7_chance_8 : decode cX7_chance 8 = .ok (.ifCond .eq 18, 3) := by decide +kernel
theorem dX7_chance_11 : decode cX7_chance 11 = .ok (.aload_n 0, 1) := by decide +kernel
theorem dX7_chance_12 : decode cX7_chance 12 = .ok (.iload_n 2, 1) := by decide +kernel
theorem dX7_chance_13 : decode cX7_chance 13 = .ok (.invokevirtual 327, 3) := by decide +kernel
theorem dX7_chance_16 : decode cX7_chance 16 = .ok (.ifCond .eq 10, 3) := by decide +kernel
theorem dX7_chance_19 : decode cX7_chance 19 = .ok (.iload_n 3, 1) := by decide +kernel
theorem dX7_chance_20 : decode cX7_chance 20 = .ok (.invokestatic 125, 3) := by decide +kernel
theorem dX7_chance_23 : decode cX7_chance 23 = .ok (.ifCond .ne 7, 3) := by decide +kernel
theorem dX7_chance_26 : decode cX7_chance 26 = .ok (.ldc2_w 330, 3) := by decide +kernel
theorem dX7_chance_29 : decode cX7_chance 29 = .ok (.lreturn, 1) := by decide +kernel
theorem dX7_chance_30 : decode cX7_chance 30 = .ok (.aload_n 0, 1) := by decide +kernel
theorem dX7_chance_31 : decode cX7_chance 31 = .ok (.getfield 58, 3) := by decide +kernel
theorem dX7_chance_34 : decode cX7_chance 34 = .ok (.aload_n 0, 1) := by decide +kernel
theorem dX7_chance_35 : decode cX7_chance 35 = .ok (.getfield 45, 3) := by decide +kernel
theorem dX7_chance_38 : decode cX7_chance 38 = .ok (.iload_n 2, 1) := by decide +kernel
theorem dX7_chance_39 : decode cX7_chance 39 = .ok (.invokevirtual 332, 3) := by decide +kernel
theorem dX7_chance_42 : decode cX7_chance 42 = .ok (.aload_n 0, 1) := by decide +kernel
theorem dX7_chance_43 : decode cX7_chance 43 = .ok (.getfield 58, 3) := by decide +kernel
theorem dX7_chance_46 : decode cX7_chance 46 = .ok (.getfield 336, 3) := by decide +kernel
theorem dX7_chance_49 : decode cX7_chance 49 = .ok (.iload_n 1, 1) := by decide +kernel
theorem dX7_chance_50 : decode cX7_chance 50 = .ok (.laload, 1) := by decide +kernel
theorem dX7_chance_51 : decode cX7_chance 51 = .ok (.aload_n 0, 1) := by decide +kernel
theorem dX7_chance_52 : decode cX7_chance 52 = .ok (.getfield 58, 3) := by decide +kernel
theorem dX7_chance_55 : decode cX7_chance 55 = .ok (.getfield 340, 3) := by decide +kernel
theorem dX7_chance_58 : decode cX7_chance 58 = .ok (.iload_n 3, 1) := by decide +kernel
theorem dX7_chance_59 : decode cX7_chance 59 = .ok (.invokestatic 319, 3) := by decide +kernel
theorem dX7_chance_62 : decode cX7_chance 62 = .ok (.lreturn, 1) := by decide +kernel
theorem dX7_mean_0 : decode cX7_mean 0 = .ok (.aload_n 0, 1) := by decide +kernel
theorem dX7_mean_1 : decode cX7_mean 1 = .ok (.iload_n 1, 1) := by decide +kernel
theorem dX7_mean_2 : decode cX7_mean 2 = .ok (.invokevirtual 327, 3) := by decide +kernel
theorem dX7_mean_5 : decode cX7_mean 5 = .ok (.ifCond .eq 10, 3) := by decide +kernel
theorem dX7_mean_8 : decode cX7_mean 8 = .ok (.iload_n 2, 1) := by decide +kernel
theorem dX7_mean_9 : decode cX7_mean 9 = .ok (.invokestatic 125, 3) := by decide +kernel
theorem dX7_mean_12 : decode cX7_mean 12 = .ok (.ifCond .ne 7, 3) := by decide +kernel
theorem dX7_mean_15 : decode cX7_mean 15 = .ok (.ldc2_w 330, 3) := by decide +kernel
theorem dX7_mean_18 : decode cX7_mean 18 = .ok (.lreturn, 1) := by decide +kernel
theorem dX7_mean_19 : decode cX7_mean 19 = .ok (.aload_n 0, 1) := by decide +kernel
theorem dX7_mean_20 : decode cX7_mean 20 = .ok (.getfield 58, 3) := by decide +kernel
theorem dX7_mean_23 : decode cX7_mean 23 = .ok (.aload_n 0, 1) := by decide +kernel
theorem dX7_mean_24 : decode cX7_mean 24 = .ok (.getfield 45, 3) := by decide +kernel
theorem dX7_mean_27 : decode cX7_mean 27 = .ok (.iload_n 1, 1) := by decide +kernel
theorem dX7_mean_28 : decode cX7_mean 28 = .ok (.invokevirtual 332, 3) := by decide +kernel
theorem dX7_mean_31 : decode cX7_mean 31 = .ok (.lconst 0, 1) := by decide +kernel
theorem dX7_mean_32 : decode cX7_mean 32 = .ok (.lstore_n 3, 1) := by decide +kernel
theorem dX7_mean_33 : decode cX7_mean 33 = .ok (.iconst 0, 1) := by decide +kernel
theorem dX7_mean_34 : decode cX7_mean 34 = .ok (.istore 5, 2) := by decide +kernel
theorem dX7_mean_36 : decode cX7_mean 36 = .ok (.iload 5, 2) := by decide +kernel
theorem dX7_mean_38 : decode cX7_mean 38 = .ok (.aload_n 0, 1) := by decide +kernel
theorem dX7_mean_39 : decode cX7_mean 39 = .ok (.getfield 19, 3) := by decide +kernel
theorem dX7_mean_42 : decode cX7_mean 42 = .ok (.getfield 276, 3) := by decide +kernel
theorem dX7_mean_45 : decode cX7_mean 45 = .ok (.if_icmp .ge 22, 3) := by decide +kernel
theorem dX7_mean_48 : decode cX7_mean 48 = .ok (.lload_n 3, 1) := by decide +kernel
theorem dX7_mean_49 : decode cX7_mean 49 = .ok (.aload_n 0, 1) := by decide +kernel
theorem dX7_mean_50 : decode cX7_mean 50 = .ok (.getfield 58, 3) := by decide +kernel
theorem dX7_mean_53 : decode cX7_mean 53 = .ok (.getfield 336, 3) := by decide +kernel
theorem dX7_mean_56 : decode cX7_mean 56 = .ok (.iload 5, 2) := by decide +kernel
theorem dX7_mean_58 : decode cX7_mean 58 = .ok (.laload, 1) := by decide +kernel
theorem dX7_mean_59 : decode cX7_mean 59 = .ok (.ladd, 1) := by decide +kernel
theorem dX7_mean_60 : decode cX7_mean 60 = .ok (.lstore_n 3, 1) := by decide +kernel
theorem dX7_mean_61 : decode cX7_mean 61 = .ok (.iinc 5 1, 3) := by decide +kernel
theorem dX7_mean_64 : decode cX7_mean 64 = .ok (.goto (-28), 3) := by decide +kernel
theorem dX7_mean_67 : decode cX7_mean 67 = .ok (.lload_n 3, 1) := by decide +kernel
theorem dX7_mean_68 : decode cX7_mean 68 = .ok (.aload_n 0, 1) := by decide +kernel
theorem dX7_mean_69 : decode cX7_mean 69 = .ok (.getfield 58, 3) := by decide +kernel
theorem dX7_mean_72 : decode cX7_mean 72 = .ok (.getfield 340, 3) := by decide +kernel
theorem dX7_mean_75 : decode cX7_mean 75 = .ok (.iload_n 2, 1) := by decide +kernel
theorem dX7_mean_76 : decode cX7_mean 76 = .ok (.invokestatic 319, 3) := by decide +kernel
theorem dX7_mean_79 : decode cX7_mean 79 = .ok (.lreturn, 1) := by decide +kernel
theorem dX7_drawn_0 : decode cX7_drawn 0 = .ok (.aload_n 0, 1) := by decide +kernel
theorem dX7_drawn_1 : decode cX7_drawn 1 = .ok (.getfield 19, 3) := by decide +kernel
theorem dX7_drawn_4 : decode cX7_drawn 4 = .ok (.invokevirtual 198, 3) := by decide +kernel
theorem dX7_drawn_7 : decode cX7_drawn 7 = .ok (.ifCond .eq 17, 3) := by decide +kernel
theorem dX7_drawn_10 : decode cX7_drawn 10 = .ok (.iload_n 1, 1) := by decide +kernel
theorem dX7_drawn_11 : decode cX7_drawn 11 = .ok (.invokestatic 361, 3) := by decide +kernel
theorem dX7_drawn_14 : decode cX7_drawn 14 = .ok (.ifCond .eq 10, 3) := by decide +kernel
theorem dX7_drawn_17 : decode cX7_drawn 17 = .ok (.iload_n 2, 1) := by decide +kernel
theorem dX7_drawn_18 : decode cX7_drawn 18 = .ok (.invokestatic 125, 3) := by decide +kernel
theorem dX7_drawn_21 : decode cX7_drawn 21 = .ok (.ifCond .ne 6, 3) := by decide +kernel
theorem dX7_drawn_24 : decode cX7_drawn 24 = .ok (.bipush (-2), 2) := by decide +kernel
theorem dX7_drawn_26 : decode cX7_drawn 26 = .ok (.ireturn, 1) := by decide +kernel
theorem dX7_drawn_27 : decode cX7_drawn 27 = .ok (.aload_n 0, 1) := by decide +kernel
theorem dX7_drawn_28 : decode cX7_drawn 28 = .ok (.getfield 58, 3) := by decide +kernel
theorem dX7_drawn_31 : decode cX7_drawn 31 = .ok (.iload_n 1, 1) := by decide +kernel
theorem dX7_drawn_32 : decode cX7_drawn 32 = .ok (.i2l, 1) := by decide +kernel
theorem dX7_drawn_33 : decode cX7_drawn 33 = .ok (.invokevirtual 364, 3) := by decide +kernel
theorem dX7_drawn_36 : decode cX7_drawn 36 = .ok (.istore_n 3, 1) := by decide +kernel
theorem dX7_drawn_37 : decode cX7_drawn 37 = .ok (.iload_n 2, 1) := by decide +kernel
theorem dX7_drawn_38 : decode cX7_drawn 38 = .ok (.ifCond .ne 7, 3) := by decide +kernel
theorem dX7_drawn_41 : decode cX7_drawn 41 = .ok (.iload_n 3, 1) := by decide +kernel
theorem dX7_drawn_42 : decode cX7_drawn 42 = .ok (.goto 8, 3) := by decide +kernel
theorem dX7_drawn_45 : decode cX7_drawn 45 = .ok (.aload_n 0, 1) := by decide +kernel
theorem dX7_drawn_46 : decode cX7_drawn 46 = .ok (.iload_n 3, 1) := by decide +kernel
theorem dX7_drawn_47 : decode cX7_drawn 47 = .ok (.invokevirtual 368, 3) := by decide +kernel
theorem dX7_drawn_50 : decode cX7_drawn 50 = .ok (.ireturn, 1) := by decide +kernel
theorem dX7_luck_0 : decode cX7_luck 0 = .ok (.iload_n 1, 1) := by decide +kernel
theorem dX7_luck_1 : decode cX7_luck 1 = .ok (.invokestatic 361, 3) := by decide +kernel
theorem dX7_luck_4 : decode cX7_luck 4 = .ok (.ifCond .eq 21, 3) := by decide +kernel
theorem dX7_luck_7 : decode cX7_luck 7 = .ok (.iload_n 2, 1) := by decide +kernel
theorem dX7_luck_8 : decode cX7_luck 8 = .ok (.invokestatic 246, 3) := by decide +kernel
theorem dX7_luck_11 : decode cX7_luck 11 = .ok (.ifCond .eq 14, 3) := by decide +kernel
theorem dX7_luck_14 : decode cX7_luck 14 = .ok (.aload_n 0, 1) := by decide +kernel
theorem dX7_luck_15 : decode cX7_luck 15 = .ok (.getfield 19, 3) := by decide +kernel
theorem dX7_luck_18 : decode cX7_luck 18 = .ok (.iload_n 3, 1) := by decide +kernel
theorem dX7_luck_19 : decode cX7_luck 19 = .ok (.invokevirtual 122, 3) := by decide +kernel
theorem dX7_luck_22 : decode cX7_luck 22 = .ok (.ifCond .ne 6, 3) := by decide +kernel
theorem dX7_luck_25 : decode cX7_luck 25 = .ok (.bipush (-2), 2) := by decide +kernel
theorem dX7_luck_27 : decode cX7_luck 27 = .ok (.ireturn, 1) := by decide +kernel
theorem dX7_luck_28 : decode cX7_luck 28 = .ok (.iconst 0, 1) := by decide +kernel
theorem dX7_luck_29 : decode cX7_luck 29 = .ok (.istore 4, 2) := by decide +kernel
theorem dX7_luck_31 : decode cX7_luck 31 = .ok (.iconst 0, 1) := by decide +kernel
theorem dX7_luck_32 : decode cX7_luck 32 = .ok (.istore 5, 2) := by decide +kernel
theorem dX7_luck_34 : decode cX7_luck 34 = .ok (.iload 5, 2) := by decide +kernel
theorem dX7_luck_36 : decode cX7_luck 36 = .ok (.iload_n 2, 1) := by decide +kernel
theorem dX7_luck_37 : decode cX7_luck 37 = .ok (.if_icmp .ge 35, 3) := by decide +kernel
theorem dX7_luck_40 : decode cX7_luck 40 = .ok (.iload 4, 2) := by decide +kernel
theorem dX7_luck_42 : decode cX7_luck 42 = .ok (.aload_n 0, 1) := by decide +kernel
theorem dX7_luck_43 : decode cX7_luck 43 = .ok (.aload_n 0, 1) := by decide +kernel
theorem dX7_luck_44 : decode cX7_luck 44 = .ok (.getfield 58, 3) := by decide +kernel
theorem dX7_luck_47 : decode cX7_luck 47 = .ok (.iload_n 1, 1) := by decide +kernel
theorem dX7_luck_48 : decode cX7_luck 48 = .ok (.i2l, 1) := by decide +kernel
theorem dX7_luck_49 : decode cX7_luck 49 = .ok (.iload 5, 2) := by decide +kernel
theorem dX7_luck_51 : decode cX7_luck 51 = .ok (.i2l, 1) := by decide +kernel
theorem dX7_luck_52 : decode cX7_luck 52 = .ok (.ladd, 1) := by decide +kernel
theorem dX7_luck_53 : decode cX7_luck 53 = .ok (.invokevirtual 364, 3) := by decide +kernel
theorem dX7_luck_56 : decode cX7_luck 56 = .ok (.invokevirtual 368, 3) := by decide +kernel
theorem dX7_luck_59 : decode cX7_luck 59 = .ok (.iload_n 3, 1) := by decide +kernel
theorem dX7_luck_60 : decode cX7_luck 60 = .ok (.ishr, 1) := by decide +kernel
theorem dX7_luck_61 : decode cX7_luck 61 = .ok (.iconst 1, 1) := by decide +kernel
theorem dX7_luck_62 : decode cX7_luck 62 = .ok (.iand, 1) := by decide +kernel
theorem dX7_luck_63 : decode cX7_luck 63 = .ok (.iadd, 1) := by decide +kernel
theorem dX7_luck_64 : decode cX7_luck 64 = .ok (.istore 4, 2) := by decide +kernel
theorem dX7_luck_66 : decode cX7_luck 66 = .ok (.iinc 5 1, 3) := by decide +kernel
theorem dX7_luck_69 : decode cX7_luck 69 = .ok (.goto (-35), 3) := by decide +kernel
theorem dX7_luck_72 : decode cX7_luck 72 = .ok (.iload 4, 2) := by decide +kernel
theorem dX7_luck_74 : decode cX7_luck 74 = .ok (.ireturn, 1) := by decide +kernel
theorem dX7_areTwo_0 : decode cX7_areTwo 0 = .ok (.aload_n 0, 1) := by decide +kernel
theorem dX7_areTwo_1 : decode cX7_areTwo 1 = .ok (.getfield 19, 3) := by decide +kernel
theorem dX7_areTwo_4 : decode cX7_areTwo 4 = .ok (.iload_n 1, 1) := by decide +kernel
theorem dX7_areTwo_5 : decode cX7_areTwo 5 = .ok (.invokevirtual 122, 3) := by decide +kernel
theorem dX7_areTwo_8 : decode cX7_areTwo 8 = .ok (.ifCond .eq 23, 3) := by decide +kernel
theorem dX7_areTwo_11 : decode cX7_areTwo 11 = .ok (.aload_n 0, 1) := by decide +kernel
theorem dX7_areTwo_12 : decode cX7_areTwo 12 = .ok (.getfield 19, 3) := by decide +kernel
theorem dX7_areTwo_15 : decode cX7_areTwo 15 = .ok (.iload_n 2, 1) := by decide +kernel
theorem dX7_areTwo_16 : decode cX7_areTwo 16 = .ok (.invokevirtual 122, 3) := by decide +kernel
theorem dX7_areTwo_19 : decode cX7_areTwo 19 = .ok (.ifCond .eq 12, 3) := by decide +kernel
theorem dX7_areTwo_22 : decode cX7_areTwo 22 = .ok (.iload_n 1, 1) := by decide +kernel
theorem dX7_areTwo_23 : decode cX7_areTwo 23 = .ok (.iload_n 2, 1) := by decide +kernel
theorem dX7_areTwo_24 : decode cX7_areTwo 24 = .ok (.if_icmp .eq 7, 3) := by decide +kernel
theorem dX7_areTwo_27 : decode cX7_areTwo 27 = .ok (.iconst 1, 1) := by decide +kernel
theorem dX7_areTwo_28 : decode cX7_areTwo 28 = .ok (.goto 4, 3) := by decide +kernel
theorem dX7_areTwo_31 : decode cX7_areTwo 31 = .ok (.iconst 0, 1) := by decide +kernel
theorem dX7_areTwo_32 : decode cX7_areTwo 32 = .ok (.ireturn, 1) := by decide +kernel
theorem dX7_bestQuestion_0 : decode cX7_bestQuestion 0 = .ok (.iload_n 1, 1) := by decide +kernel
theorem dX7_bestQuestion_1 : decode cX7_bestQuestion 1 = .ok (.invokestatic 271, 3) := by decide +kernel
theorem dX7_bestQuestion_4 : decode cX7_bestQuestion 4 = .ok (.istore_n 2, 1) := by decide +kernel
theorem dX7_bestQuestion_5 : decode cX7_bestQuestion 5 = .ok (.iconst (-1), 1) := by decide +kernel
theorem dX7_bestQuestion_6 : decode cX7_bestQuestion 6 = .ok (.istore_n 3, 1) := by decide +kernel
theorem dX7_bestQuestion_7 : decode cX7_bestQuestion 7 = .ok (.iconst 0, 1) := by decide +kernel
theorem dX7_bestQuestion_8 : decode cX7_bestQuestion 8 = .ok (.istore 4, 2) := by decide +kernel
theorem dX7_bestQuestion_10 : decode cX7_bestQuestion 10 = .ok (.iload 4, 2) := by decide +kernel
theorem dX7_bestQuestion_12 : decode cX7_bestQuestion 12 = .ok (.aload_n 0, 1) := by decide +kernel
theorem dX7_bestQuestion_13 : decode cX7_bestQuestion 13 = .ok (.getfield 19, 3) := by decide +kernel
theorem dX7_bestQuestion_16 : decode cX7_bestQuestion 16 = .ok (.getfield 276, 3) := by decide +kernel
theorem dX7_bestQuestion_19 : decode cX7_bestQuestion 19 = .ok (.if_icmp .ge 59, 3) := by decide +kernel
theorem dX7_bestQuestion_22 : decode cX7_bestQuestion 22 = .ok (.iconst 0, 1) := by decide +kernel
theorem dX7_bestQuestion_23 : decode cX7_bestQuestion 23 = .ok (.istore 5, 2) := by decide +kernel
theorem dX7_bestQuestion_25 : decode cX7_bestQuestion 25 = .ok (.iload 5, 2) := by decide +kernel
theorem dX7_bestQuestion_27 : decode cX7_bestQuestion 27 = .ok (.aload_n 0, 1) := by decide +kernel
theorem dX7_bestQuestion_28 : decode cX7_bestQuestion 28 = .ok (.getfield 19, 3) := by decide +kernel
theorem dX7_bestQuestion_31 : decode cX7_bestQuestion 31 = .ok (.getfield 168, 3) := by decide +kernel
theorem dX7_bestQuestion_34 : decode cX7_bestQuestion 34 = .ok (.if_icmp .gt 38, 3) := by decide +kernel
theorem dX7_bestQuestion_37 : decode cX7_bestQuestion 37 = .ok (.aload_n 0, 1) := by decide +kernel
theorem dX7_bestQuestion_38 : decode cX7_bestQuestion 38 = .ok (.iload_n 1, 1) := by decide +kernel
theorem dX7_bestQuestion_39 : decode cX7_bestQuestion 39 = .ok (.iload 4, 2) := by decide +kernel
theorem dX7_bestQuestion_41 : decode cX7_bestQuestion 41 = .ok (.iload 5, 2) := by decide +kernel
theorem dX7_bestQuestion_43 : decode cX7_bestQuestion 43 = .ok (.invokevirtual 299, 3) := by decide +kernel
theorem dX7_bestQuestion_46 : decode cX7_bestQuestion 46 = .ok (.istore 6, 2) := by decide +kernel
theorem dX7_bestQuestion_48 : decode cX7_bestQuestion 48 = .ok (.iload 6, 2) := by decide +kernel
theorem dX7_bestQuestion_50 : decode cX7_bestQuestion 50 = .ok (.iload_n 2, 1) := by decide +kernel
theorem dX7_bestQuestion_51 : decode cX7_bestQuestion 51 = .ok (.if_icmp .ge 15, 3) := by decide +kernel
theorem dX7_bestQuestion_54 : decode cX7_bestQuestion 54 = .ok (.iload 6, 2) := by decide +kernel
theorem dX7_bestQuestion_56 : decode cX7_bestQuestion 56 = .ok (.istore_n 2, 1) := by decide +kernel
theorem dX7_bestQuestion_57 : decode cX7_bestQuestion 57 = .ok (.bipush 100, 2) := by decide +kernel
theorem dX7_bestQuestion_59 : decode cX7_bestQuestion 59 = .ok (.iload 4, 2) := by decide +kernel
theorem dX7_bestQuestion_61 : decode cX7_bestQuestion 61 = .ok (.imul, 1) := by decide +kernel
theorem dX7_bestQuestion_62 : decode cX7_bestQuestion 62 = .ok (.iload 5, 2) := by decide +kernel
theorem dX7_bestQuestion_64 : decode cX7_bestQuestion 64 = .ok (.iadd, 1) := by decide +kernel
theorem dX7_bestQuestion_65 : decode cX7_bestQuestion 65 = .ok (.istore_n 3, 1) := by decide +kernel
theorem dX7_bestQuestion_66 : decode cX7_bestQuestion 66 = .ok (.iinc 5 1, 3) := by decide +kernel
theorem dX7_bestQuestion_69 : decode cX7_bestQuestion 69 = .ok (.goto (-44), 3) := by decide +kernel
theorem dX7_bestQuestion_72 : decode cX7_bestQuestion 72 = .ok (.iinc 4 1, 3) := by decide +kernel
theorem dX7_bestQuestion_75 : decode cX7_bestQuestion 75 = .ok (.goto (-65), 3) := by decide +kernel
theorem dX7_bestQuestion_78 : decode cX7_bestQuestion 78 = .ok (.iload_n 3, 1) := by decide +kernel
theorem dX7_bestQuestion_79 : decode cX7_bestQuestion 79 = .ok (.ireturn, 1) := by decide +kernel
theorem dX7_mostLeft_0 : decode cX7_mostLeft 0 = .ok (.iload_n 3, 1) := by decide +kernel
theorem dX7_mostLeft_1 : decode cX7_mostLeft 1 = .ok (.bipush 8, 2) := by decide +kernel
theorem dX7_mostLeft_3 : decode cX7_mostLeft 3 = .ok (.imul, 1) := by decide +kernel
theorem dX7_mostLeft_4 : decode cX7_mostLeft 4 = .ok (.iload_n 2, 1) := by decide +kernel
theorem dX7_mostLeft_5 : decode cX7_mostLeft 5 = .ok (.iadd, 1) := by decide +kernel
theorem dX7_mostLeft_6 : decode cX7_mostLeft 6 = .ok (.istore 4, 2) := by decide +kernel
theorem dX7_mostLeft_8 : decode cX7_mostLeft 8 = .ok (.iconst 0, 1) := by decide +kernel
theorem dX7_mostLeft_9 : decode cX7_mostLeft 9 = .ok (.istore 5, 2) := by decide +kernel
theorem dX7_mostLeft_11 : decode cX7_mostLeft 11 = .ok (.iconst 0, 1) := by decide +kernel
theorem dX7_mostLeft_12 : decode cX7_mostLeft 12 = .ok (.istore 6, 2) := by decide +kernel
theorem dX7_mostLeft_14 : decode cX7_mostLeft 14 = .ok (.iload 6, 2) := by decide +kernel
theorem dX7_mostLeft_16 : decode cX7_mostLeft 16 = .ok (.iconst 4, 1) := by decide +kernel
theorem dX7_mostLeft_17 : decode cX7_mostLeft 17 = .ok (.if_icmp .ge 46, 3) := by decide +kernel
theorem dX7_mostLeft_20 : decode cX7_mostLeft 20 = .ok (.iload_n 1, 1) := by decide +kernel
theorem dX7_mostLeft_21 : decode cX7_mostLeft 21 = .ok (.iload 6, 2) := by decide +kernel
theorem dX7_mostLeft_23 : decode cX7_mostLeft 23 = .ok (.ishr, 1) := by decide +kernel
theorem dX7_mostLeft_24 : decode cX7_mostLeft 24 = .ok (.iconst 1, 1) := by decide +kernel
theorem dX7_mostLeft_25 : decode cX7_mostLeft 25 = .ok (.iand, 1) := by decide +kernel
theorem dX7_mostLeft_26 : decode cX7_mostLeft 26 = .ok (.ifCond .eq 31, 3) := by decide +kernel
theorem dX7_mostLeft_29 : decode cX7_mostLeft 29 = .ok (.iload 5, 2) := by decide +kernel
theorem dX7_mostLeft_31 : decode cX7_mostLeft 31 = .ok (.aload_n 0, 1) := by decide +kernel
theorem dX7_mostLeft_32 : decode cX7_mostLeft 32 = .ok (.iload_n 1, 1) := by decide +kernel
theorem dX7_mostLeft_33 : decode cX7_mostLeft 33 = .ok (.iload 4, 2) := by decide +kernel
theorem dX7_mostLeft_35 : decode cX7_mostLeft 35 = .ok (.aload_n 0, 1) := by decide +kernel
theorem dX7_mostLeft_36 : decode cX7_mostLeft 36 = .ok (.getfield 70, 3) := by decide +kernel
theorem dX7_mostLeft_39 : decode cX7_mostLeft 39 = .ok (.iload 6, 2) := by decide +kernel
theorem dX7_mostLeft_41 : decode cX7_mostLeft 41 = .ok (.sipush 136, 3) := by decide +kernel
theorem dX7_mostLeft_44 : decode cX7_mostLeft 44 = .ok (.imul, 1) := by decide +kernel
theorem dX7_mostLeft_45 : decode cX7_mostLeft 45 = .ok (.iload 4, 2) := by decide +kernel
theorem dX7_mostLeft_47 : decode cX7_mostLeft 47 = .ok (.iadd, 1) := by decide +kernel
theorem dX7_mostLeft_48 : decode cX7_mostLeft 48 = .ok (.iaload, 1) := by decide +kernel
theorem dX7_mostLeft_49 : decode cX7_mostLeft 49 = .ok (.invokevirtual 444, 3) := by decide +kernel
theorem dX7_mostLeft_52 : decode cX7_mostLeft 52 = .ok (.invokestatic 447, 3) := by decide +kernel
theorem dX7_mostLeft_55 : decode cX7_mostLeft 55 = .ok (.istore 5, 2) := by decide +kernel
theorem dX7_mostLeft_57 : decode cX7_mostLeft 57 = .ok (.iinc 6 1, 3) := by decide +kernel
theorem dX7_mostLeft_60 : decode cX7_mostLeft 60 = .ok (.goto (-46), 3) := by decide +kernel
theorem dX7_mostLeft_63 : decode cX7_mostLeft 63 = .ok (.iload 5, 2) := by decide +kernel
theorem dX7_mostLeft_65 : decode cX7_mostLeft 65 = .ok (.ireturn, 1) := by decide +kernel
theorem dX7_roadsAlike_0 : decode cX7_roadsAlike 0 = .ok (.iconst 0, 1) := by decide +kernel
theorem dX7_roadsAlike_1 : decode cX7_roadsAlike 1 = .ok (.istore 4, 2) := by decide +kernel
theorem dX7_roadsAlike_3 : decode cX7_roadsAlike 3 = .ok (.iconst 0, 1) := by decide +kernel
theorem dX7_roadsAlike_4 : decode cX7_roadsAlike 4 = .ok (.istore 5, 2) := by decide +kernel
theorem dX7_roadsAlike_6 : decode cX7_roadsAlike 6 = .ok (.iload 5, 2) := by decide +kernel
theorem dX7_roadsAlike_8 : decode cX7_roadsAlike 8 = .ok (.iconst 4, 1) := by decide +kernel
theorem dX7_roadsAlike_9 : decode cX7_roadsAlike 9 = .ok (.if_icmp .ge 38, 3) := by decide +kernel
theorem dX7_roadsAlike_12 : decode cX7_roadsAlike 12 = .ok (.iload_n 1, 1) := by decide +kernel
theorem dX7_roadsAlike_13 : decode cX7_roadsAlike 13 = .ok (.iload 5, 2) := by decide +kernel
theorem dX7_roadsAlike_15 : decode cX7_roadsAlike 15 = .ok (.ishr, 1) := by decide +kernel
theorem dX7_roadsAlike_16 : decode cX7_roadsAlike 16 = .ok (.iconst 1, 1) := by decide +kernel
theorem dX7_roadsAlike_17 : decode cX7_roadsAlike 17 = .ok (.iand, 1) := by decide +kernel
theorem dX7_roadsAlike_18 : decode cX7_roadsAlike 18 = .ok (.ifCond .eq 23, 3) := by decide +kernel
theorem dX7_roadsAlike_21 : decode cX7_roadsAlike 21 = .ok (.aload_n 0, 1) := by decide +kernel
theorem dX7_roadsAlike_22 : decode cX7_roadsAlike 22 = .ok (.getfield 70, 3) := by decide +kernel
theorem dX7_roadsAlike_25 : decode cX7_roadsAlike 25 = .ok (.iload 5, 2) := by decide +kernel
theorem dX7_roadsAlike_27 : decode cX7_roadsAlike 27 = .ok (.sipush 136, 3) := by decide +kernel
theorem dX7_roadsAlike_30 : decode cX7_roadsAlike 30 = .ok (.imul, 1) := by decide +kernel
theorem dX7_roadsAlike_31 : decode cX7_roadsAlike 31 = .ok (.iload_n 2, 1) := by decide +kernel
theorem dX7_roadsAlike_32 : decode cX7_roadsAlike 32 = .ok (.iadd, 1) := by decide +kernel
theorem dX7_roadsAlike_33 : decode cX7_roadsAlike 33 = .ok (.iaload, 1) := by decide +kernel
theorem dX7_roadsAlike_34 : decode cX7_roadsAlike 34 = .ok (.iload_n 3, 1) := by decide +kernel
theorem dX7_roadsAlike_35 : decode cX7_roadsAlike 35 = .ok (.if_icmp .ne 6, 3) := by decide +kernel
theorem dX7_roadsAlike_38 : decode cX7_roadsAlike 38 = .ok (.iinc 4 1, 3) := by decide +kernel
theorem dX7_roadsAlike_41 : decode cX7_roadsAlike 41 = .ok (.iinc 5 1, 3) := by decide +kernel
theorem dX7_roadsAlike_44 : decode cX7_roadsAlike 44 = .ok (.goto (-38), 3) := by decide +kernel
theorem dX7_roadsAlike_47 : decode cX7_roadsAlike 47 = .ok (.iload 4, 2) := by decide +kernel
theorem dX7_roadsAlike_49 : decode cX7_roadsAlike 49 = .ok (.ireturn, 1) := by decide +kernel
theorem dX7_partOfFraction_0 : decode cX7_partOfFraction 0 = .ok (.lload_n 0, 1) := by decide +kernel
theorem dX7_partOfFraction_1 : decode cX7_partOfFraction 1 = .ok (.invokestatic 452, 3) := by decide +kernel
theorem dX7_partOfFraction_4 : decode cX7_partOfFraction 4 = .ok (.lload_n 2, 1) := by decide +kernel
theorem dX7_partOfFraction_5 : decode cX7_partOfFraction 5 = .ok (.invokestatic 456, 3) := by decide +kernel
theorem dX7_partOfFraction_8 : decode cX7_partOfFraction 8 = .ok (.lstore 5, 2) := by decide +kernel
theorem dX7_partOfFraction_10 : decode cX7_partOfFraction 10 = .ok (.lload 5, 2) := by decide +kernel
theorem dX7_partOfFraction_12 : decode cX7_partOfFraction 12 = .ok (.lconst 0, 1) := by decide +kernel
theorem dX7_partOfFraction_13 : decode cX7_partOfFraction 13 = .ok (.lcmp, 1) := by decide +kernel
theorem dX7_partOfFraction_14 : decode cX7_partOfFraction 14 = .ok (.ifCond .ne 5, 3) := by decide +kernel
theorem dX7_partOfFraction_17 : decode cX7_partOfFraction 17 = .ok (.lconst 0, 1) := by decide +kernel
theorem dX7_partOfFraction_18 : decode cX7_partOfFraction 18 = .ok (.lreturn, 1) := by decide +kernel
theorem dX7_partOfFraction_19 : decode cX7_partOfFraction 19 = .ok (.iload 4, 2) := by decide +kernel
theorem dX7_partOfFraction_21 : decode cX7_partOfFraction 21 = .ok (.ifCond .ne 10, 3) := by decide +kernel
theorem dX7_partOfFraction_24 : decode cX7_partOfFraction 24 = .ok (.lload_n 0, 1) := by decide +kernel
theorem dX7_partOfFraction_25 : decode cX7_partOfFraction 25 = .ok (.lload 5, 2) := by decide +kernel
theorem dX7_partOfFraction_27 : decode cX7_partOfFraction 27 = .ok (.ldiv, 1) := by decide +kernel
theorem dX7_partOfFraction_28 : decode cX7_partOfFraction 28 = .ok (.goto 7, 3) := by decide +kernel
theorem dX7_partOfFraction_31 : decode cX7_partOfFraction 31 = .ok (.lload_n 2, 1) := by decide +kernel
theorem dX7_partOfFraction_32 : decode cX7_partOfFraction 32 = .ok (.lload 5, 2) := by decide +kernel
theorem dX7_partOfFraction_34 : decode cX7_partOfFraction 34 = .ok (.ldiv, 1) := by decide +kernel
theorem dX7_partOfFraction_35 : decode cX7_partOfFraction 35 = .ok (.lreturn, 1) := by decide +kernel
theorem dX7_greatestDivisor_0 : decode cX7_greatestDivisor 0 = .ok (.lload_n 0, 1) := by decide +kernel
theorem dX7_greatestDivisor_1 : decode cX7_greatestDivisor 1 = .ok (.lstore 4, 2) := by decide +kernel
theorem dX7_greatestDivisor_3 : decode cX7_greatestDivisor 3 = .ok (.lload_n 2, 1) := by decide +kernel
theorem dX7_greatestDivisor_4 : decode cX7_greatestDivisor 4 = .ok (.lstore 6, 2) := by decide +kernel
theorem dX7_greatestDivisor_6 : decode cX7_greatestDivisor 6 = .ok (.iconst 0, 1) := by decide +kernel
theorem dX7_greatestDivisor_7 : decode cX7_greatestDivisor 7 = .ok (.istore 8, 2) := by decide +kernel
theorem dX7_greatestDivisor_9 : decode cX7_greatestDivisor 9 = .ok (.iload 8, 2) := by decide +kernel
theorem dX7_greatestDivisor_11 : decode cX7_greatestDivisor 11 = .ok (.sipush 200, 3) := by decide +kernel
theorem dX7_greatestDivisor_14 : decode cX7_greatestDivisor 14 = .ok (.if_icmp .ge 31, 3) := by decide +kernel
theorem dX7_greatestDivisor_17 : decode cX7_greatestDivisor 17 = .ok (.lload 6, 2) := by decide +kernel
theorem dX7_greatestDivisor_19 : decode cX7_greatestDivisor 19 = .ok (.lconst 0, 1) := by decide +kernel
theorem dX7_greatestDivisor_20 : decode cX7_greatestDivisor 20 = .ok (.lcmp, 1) := by decide +kernel
theorem dX7_greatestDivisor_21 : decode cX7_greatestDivisor 21 = .ok (.ifCond .eq 24, 3) := by decide +kernel
theorem dX7_greatestDivisor_24 : decode cX7_greatestDivisor 24 = .ok (.lload 4, 2) := by decide +kernel
theorem dX7_greatestDivisor_26 : decode cX7_greatestDivisor 26 = .ok (.lload 6, 2) := by decide +kernel
theorem dX7_greatestDivisor_28 : decode cX7_greatestDivisor 28 = .ok (.lrem, 1) := by decide +kernel
theorem dX7_greatestDivisor_29 : decode cX7_greatestDivisor 29 = .ok (.lstore 9, 2) := by decide +kernel
theorem dX7_greatestDivisor_31 : decode cX7_greatestDivisor 31 = .ok (.lload 6, 2) := by decide +kernel
theorem dX7_greatestDivisor_33 : decode cX7_greatestDivisor 33 = .ok (.lstore 4, 2) := by decide +kernel
theorem dX7_greatestDivisor_35 : decode cX7_greatestDivisor 35 = .ok (.lload 9, 2) := by decide +kernel
theorem dX7_greatestDivisor_37 : decode cX7_greatestDivisor 37 = .ok (.lstore 6, 2) := by decide +kernel
theorem dX7_greatestDivisor_39 : decode cX7_greatestDivisor 39 = .ok (.iinc 8 1, 3) := by decide +kernel
theorem dX7_greatestDivisor_42 : decode cX7_greatestDivisor 42 = .ok (.goto (-33), 3) := by decide +kernel
theorem dX7_greatestDivisor_45 : decode cX7_greatestDivisor 45 = .ok (.lload 4, 2) := by decide +kernel
theorem dX7_greatestDivisor_47 : decode cX7_greatestDivisor 47 = .ok (.lreturn, 1) := by decide +kernel
theorem dJ7_fill_d0a16_0 : decode cJ7_fill_d0a16 0 = .ok (.iconst 0, 1) := by decide +kernel
theorem dJ7_fill_d0a16_1 : decode cJ7_fill_d0a16 1 = .ok (.istore_n 3, 1) := by decide +kernel
theorem dJ7_fill_d0a16_2 : decode cJ7_fill_d0a16 2 = .ok (.aload_n 0, 1) := by decide +kernel
theorem dJ7_fill_d0a16_3 : decode cJ7_fill_d0a16 3 = .ok (.arraylength, 1) := by decide +kernel
theorem dJ7_fill_d0a16_4 : decode cJ7_fill_d0a16 4 = .ok (.istore 4, 2) := by decide +kernel
theorem dJ7_fill_d0a16_6 : decode cJ7_fill_d0a16 6 = .ok (.iload_n 3, 1) := by decide +kernel
theorem dJ7_fill_d0a16_7 : decode cJ7_fill_d0a16 7 = .ok (.iload 4, 2) := by decide +kernel
theorem dJ7_fill_d0a16_9 : decode cJ7_fill_d0a16 9 = .ok (.if_icmp .ge 13, 3) := by decide +kernel
theorem dJ7_fill_d0a16_12 : decode cJ7_fill_d0a16 12 = .ok (.aload_n 0, 1) := by decide +kernel
theorem dJ7_fill_d0a16_13 : decode cJ7_fill_d0a16 13 = .ok (.iload_n 3, 1) := by decide +kernel
theorem dJ7_fill_d0a16_14 : decode cJ7_fill_d0a16 14 = .ok (.lload_n 1, 1) := by decide +kernel
theorem dJ7_fill_d0a16_15 : decode cJ7_fill_d0a16 15 = .ok (.lastore, 1) := by decide +kernel
theorem dJ7_fill_d0a16_16 : decode cJ7_fill_d0a16 16 = .ok (.iinc 3 1, 3) := by decide +kernel
theorem dJ7_fill_d0a16_19 : decode cJ7_fill_d0a16 19 = .ok (.goto (-13), 3) := by decide +kernel
theorem dJ7_fill_d0a16_22 : decode cJ7_fill_d0a16 22 = .ok (.return_, 1) := by decide +kernel
theorem wd473 : Cond.methodLink RX7 246 yX7_isFewInARow ∈ tblG := gw4 187 (by decide +kernel) (by decide +kernel)
theorem wd474 : Cond.static yX7_isFewInARow ∈ tblG := gw4 188 (by decide +kernel) (by decide +kernel)
theorem wd475 : Cond.code yX7_isFewInARow cX7_isFewInARow 1 (some .boolean) ∈ tblG := gw4 189 (by decide +kernel) (by decide +kernel)
theorem pl_X7_isFewInARow : Plain yX7_isFewInARow 1 := ⟨by decide, by decide, by decide +kernel⟩
theorem lk_X7_246 : LkS RX7 246 yX7_isFewInARow cX7_isFewInARow 1 (some .boolean) 1 := ⟨wd473, wd474, wd207, wd475, pl_X7_isFewInARow⟩
theorem wd476 : Cond.methodLink RX7 260 yX3_setArms ∈ tblG := gw4 226 (by decide +kernel) (by decide +kernel)
theorem wd477 : Cond.instanceMethod yX3_setArms ∈ tblG := gw4 227 (by decide +kernel) (by decide +kernel)
theorem wd478 : Cond.selects RX3 yX3_setArms yX3_setArms ∈ tblG := gw4 228 (by decide +kernel) (by decide +kernel)
theorem wd479 : Cond.code yX3_setArms cX3_setArms 5 none ∈ tblG := gw4 229 (by decide +kernel) (by decide +kernel)
theorem pl_X3_setArms : Plain yX3_setArms 1 := ⟨by decide, by decide, by decide +kernel⟩
theorem lk_X7_260 : LkV RX7 260 3 yX3_setArms cX3_setArms 5 none 1 := ⟨⟨TX3, 3, rfl⟩, wd476, wd477, wd478, wd307, wd479, pl_X3_setArms⟩
theorem fk_X7_263 : FLk RX7 263 3 1 (.array .int) true := ⟨RX3, TX3, 3, tyX3, clX3, by decide, rfl, rfl, rfl, Or.inr ⟨"ObligingPosts", List.mem_of_getElem? (i := 13) (by decide +kernel)⟩⟩
theorem wd480 : Cond.methodLink RX7 212 yX7_areTwo ∈ tblG := gw4 94 (by decide +kernel) (by decide +kernel)
theorem wd481 : Cond.instanceMethod yX7_areTwo ∈ tblG := gw4 96 (by decide +kernel) (by decide +kernel)
theorem wd482 : Cond.selects RX7 yX7_areTwo yX7_areTwo ∈ tblG := gw0 25 (by decide +kernel) (by decide +kernel)
theorem wd483 : Cond.code yX7_areTwo cX7_areTwo 3 (some .boolean) ∈ tblG := gw4 97 (by decide +kernel) (by decide +kernel)
theorem pl_X7_areTwo : Plain yX7_areTwo 2 := ⟨by decide, by decide, by decide +kernel⟩
theorem lk_X7_212 : LkV RX7 212 7 yX7_areTwo cX7_areTwo 3 (some .boolean) 2 := ⟨⟨TX7, 12, rfl⟩, wd480, wd481, wd482, wd207, wd483, pl_X7_areTwo⟩
theorem wd484 : Cond.methodLink RX7 216 yX4_firstHourTogether ∈ tblG := gw4 98 (by decide +kernel) (by decide +kernel)
theorem wd485 : Cond.instanceMethod yX4_firstHourTogether ∈ tblG := gw4 99 (by decide +kernel) (by decide +kernel)
theorem wd486 : Cond.selects RX4 yX4_firstHourTogether yX4_firstHourTogether ∈ tblG := gw4 100 (by decide +kernel) (by decide +kernel)
theorem wd487 : Cond.code yX4_firstHourTogether cX4_firstHourTogether 5 (some .int) ∈ tblG := gw4 101 (by decide +kernel) (by decide +kernel)
theorem pl_X4_firstHourTogether : Plain yX4_firstHourTogether 2 := ⟨by decide, by decide, by decide +kernel⟩
theorem lk_X7_216 : LkV RX7 216 4 yX4_firstHourTogether cX4_firstHourTogether 5 (some .int) 2 := ⟨⟨TX4, 9, rfl⟩, wd484, wd485, wd486, wd48, wd487, pl_X4_firstHourTogether⟩
theorem wd488 : Cond.methodLink RX7 323 yX7_gain ∈ tblG := gw5 113 (by decide +kernel) (by decide +kernel)
theorem wd489 : Cond.instanceMethod yX7_gain ∈ tblG := gw5 115 (by decide +kernel) (by decide +kernel)
theorem wd490 : Cond.selects RX7 yX7_gain yX7_gain ∈ tblG := gw0 41 (by decide +kernel) (by decide +kernel)
theorem wd491 : Cond.code yX7_gain cX7_gain 6 (some .int) ∈ tblG := gw5 116 (by decide +kernel) (by decide +kernel)
theorem pl_X7_gain : Plain yX7_gain 4 := ⟨by decide, by decide, by decide +kernel⟩
theorem lk_X7_323 : LkV RX7 323 7 yX7_gain cX7_gain 6 (some .int) 4 := ⟨⟨TX7, 12, rfl⟩, wd488, wd489, wd490, wd207, wd491, pl_X7_gain⟩
theorem wd492 : Cond.methodLink RX7 452 yJ9_abs_067f4 ∈ tblG := gw5 103 (by decide +kernel) (by decide +kernel)
theorem wd493 : Cond.static yJ9_abs_067f4 ∈ tblG := gw5 104 (by decide +kernel) (by decide +kernel)
theorem wd494 : Cond.code yJ9_abs_067f4 cJ9_abs_067f4 2 (some .long) ∈ tblG := gw5 105 (by decide +kernel) (by decide +kernel)
theorem wd495 : Cond.methodLink RX7 456 yX7_greatestDivisor ∈ tblG := gw5 106 (by decide +kernel) (by decide +kernel)
theorem wd496 : Cond.static yX7_greatestDivisor ∈ tblG := gw5 107 (by decide +kernel) (by decide +kernel)
theorem wd497 : Cond.code yX7_greatestDivisor cX7_greatestDivisor 11 (some .long) ∈ tblG := gw5 108 (by decide +kernel) (by decide +kernel)
theorem pl_X7_greatestDivisor : Plain yX7_greatestDivisor 2 := ⟨by decide, by decide, by decide +kernel⟩
theorem lk_X7_456 : LkS RX7 456 yX7_greatestDivisor cX7_greatestDivisor 11 (some .long) 2 := ⟨wd495, wd496, wd207, wd497, pl_X7_greatestDivisor⟩
theorem wd498 : Cond.fieldLink RX7 70 RX7 "supposed" "[I" ∈ tblG := gw2 35 (by decide +kernel) (by decide +kernel)
theorem fk_X7_70 : FLk RX7 70 7 11 (.array .int) true := ⟨RX7, TX7, 12, tyX7, clX7, by decide, rfl, rfl, rfl, Or.inl wd498⟩
theorem wd499 : Cond.methodLink RX7 444 yX7_roadsAlike ∈ tblG := gw5 57 (by decide +kernel) (by decide +kernel)
theorem wd500 : Cond.instanceMethod yX7_roadsAlike ∈ tblG := gw5 59 (by decide +kernel) (by decide +kernel)
theorem wd501 : Cond.selects RX7 yX7_roadsAlike yX7_roadsAlike ∈ tblG := gw0 37 (by decide +kernel) (by decide +kernel)
theorem wd502 : Cond.code yX7_roadsAlike cX7_roadsAlike 6 (some .int) ∈ tblG := gw5 60 (by decide +kernel) (by decide +kernel)
theorem pl_X7_roadsAlike : Plain yX7_roadsAlike 3 := ⟨by decide, by decide, by decide +kernel⟩
theorem lk_X7_444 : LkV RX7 444 7 yX7_roadsAlike cX7_roadsAlike 6 (some .int) 3 := ⟨⟨TX7, 12, rfl⟩, wd499, wd500, wd501, wd207, wd502, pl_X7_roadsAlike⟩
theorem wd503 : Cond.methodLink RX7 447 yJ9_max_7cf53 ∈ tblG := gw5 61 (by decide +kernel) (by decide +kernel)
theorem wd504 : Cond.methodLink RX7 299 yX7_mostLeft ∈ tblG := gw5 53 (by decide +kernel) (by decide +kernel)
theorem wd505 : Cond.instanceMethod yX7_mostLeft ∈ tblG := gw5 55 (by decide +kernel) (by decide +kernel)
theorem wd506 : Cond.selects RX7 yX7_mostLeft yX7_mostLeft ∈ tblG := gw0 36 (by decide +kernel) (by decide +kernel)
theorem wd507 : Cond.code yX7_mostLeft cX7_mostLeft 7 (some .int) ∈ tblG := gw5 56 (by decide +kernel) (by decide +kernel)
theorem pl_X7_mostLeft : Plain yX7_mostLeft 3 := ⟨by decide, by decide, by decide +kernel⟩
theorem lk_X7_299 : LkV RX7 299 7 yX7_mostLeft cX7_mostLeft 7 (some .int) 3 := ⟨⟨TX7, 12, rfl⟩, wd504, wd505, wd506, wd207, wd507, pl_X7_mostLeft⟩
theorem layX1 : ∀ k, k < 4 → u_lay RX1 TX1 k ∈ tblG := fun k hk => match k, hk with
  | 0, _ => gw2 14 (by decide +kernel) (by decide +kernel)
  | 1, _ => gw2 16 (by decide +kernel) (by decide +kernel)
  | 2, _ => gw2 18 (by decide +kernel) (by decide +kernel)
  | 3, _ => gw2 20 (by decide +kernel) (by decide +kernel)
  | k + 4, hk => absurd hk (by omega)
theorem clX1 : CLk 1 RX1 TX1 4 tyX1 := ⟨rfl, fun w hw => by
  obtain ⟨k, hk, rfl⟩ := List.mem_map.mp hw
  exact layX1 k (List.mem_range.mp hk), tyX1_ok, nmX1⟩
theorem wd508 : Cond.fieldLink RX1 9 RX1 "learned" "I" ∈ tblG := gw2 9 (by decide +kernel) (by decide +kernel)
theorem fk_X1_9 : FLk RX1 9 1 1 (.int) false := ⟨RX1, TX1, 4, tyX1, clX1, by decide, rfl, rfl, rfl, Or.inl wd508⟩
theorem wd509 : Cond.fieldLink RX1 23 RX1 "heath" "LObligingPosts$Heath;" ∈ tblG := gw2 8 (by decide +kernel) (by decide +kernel)
theorem fk_X1_23 : FLk RX1 23 1 0 (.object "ObligingPosts$Heath") true := ⟨RX1, TX1, 4, tyX1, clX1, by decide, rfl, rfl, rfl, Or.inl wd509⟩
theorem fk_X1_67 : FLk RX1 67 2 8 (.int) false := ⟨RX2, TX2, 16, tyX2, clX2, by decide, rfl, rfl, rfl, Or.inr ⟨"ObligingPosts", List.mem_of_getElem? (i := 34) (by decide +kernel)⟩⟩
theorem wd510 : Cond.fieldLink RX1 15 RX1 "weights" "[J" ∈ tblG := gw2 10 (by decide +kernel) (by decide +kernel)
theorem fk_X1_15 : FLk RX1 15 1 2 (.array .long) true := ⟨RX1, TX1, 4, tyX1, clX1, by decide, rfl, rfl, rfl, Or.inl wd510⟩
theorem fk_X1_70 : FLk RX1 70 2 1 (.int) false := ⟨RX2, TX2, 16, tyX2, clX2, by decide, rfl, rfl, rfl, Or.inr ⟨"ObligingPosts", List.mem_of_getElem? (i := 35) (by decide +kernel)⟩⟩
theorem wd511 : Cond.constantLong RX1 73 (1103515245) ∈ tblG := gw5 190 (by decide +kernel) (by decide +kernel)
theorem wd512 : Cond.constantLong RX1 75 (12345) ∈ tblG := gw5 191 (by decide +kernel) (by decide +kernel)
theorem wd513 : Cond.constantLong RX1 77 (2147483648) ∈ tblG := gw5 192 (by decide +kernel) (by decide +kernel)
theorem wd514 : Cond.constantLong RX1 79 (65536) ∈ tblG := gw5 193 (by decide +kernel) (by decide +kernel)
theorem wd515 : Cond.constantLong RX1 33 (10) ∈ tblG := gw5 137 (by decide +kernel) (by decide +kernel)
theorem fk_X1_55 : FLk RX1 55 2 3 (.int) false := ⟨RX2, TX2, 16, tyX2, clX2, by decide, rfl, rfl, rfl, Or.inr ⟨"ObligingPosts", List.mem_of_getElem? (i := 32) (by decide +kernel)⟩⟩
theorem wd516 : Cond.methodLink RX1 47 yX4_walkersInside ∈ tblG := gw5 143 (by decide +kernel) (by decide +kernel)
theorem lk_X1_47 : LkV RX1 47 4 yX4_walkersInside cX4_walkersInside 4 (some .int) 1 := ⟨⟨TX4, 9, rfl⟩, wd516, wd75, wd76, wd48, wd77, pl_X4_walkersInside⟩
theorem wd517 : Cond.methodLink RX1 51 yX1_addInside ∈ tblG := gw5 144 (by decide +kernel) (by decide +kernel)
theorem wd518 : Cond.instanceMethod yX1_addInside ∈ tblG := gw5 146 (by decide +kernel) (by decide +kernel)
theorem wd519 : Cond.selects RX1 yX1_addInside yX1_addInside ∈ tblG := gw0 43 (by decide +kernel) (by decide +kernel)
theorem wd520 : Cond.initialized RX1 ∈ tblG := gw1 7 (by decide +kernel) (by decide +kernel)
theorem wd521 : Cond.code yX1_addInside cX1_addInside 5 none ∈ tblG := gw5 147 (by decide +kernel) (by decide +kernel)
theorem pl_X1_addInside : Plain yX1_addInside 2 := ⟨by decide, by decide, by decide +kernel⟩
theorem lk_X1_51 : LkV RX1 51 1 yX1_addInside cX1_addInside 5 none 2 := ⟨⟨TX1, 4, rfl⟩, wd517, wd518, wd519, wd520, wd521, pl_X1_addInside⟩
theorem fk_X1_60 : FLk RX1 60 4 3 (.int) false := ⟨RX4, TX4, 9, tyX4, clX4, by decide, rfl, rfl, rfl, Or.inr ⟨"ObligingPosts", List.mem_of_getElem? (i := 33) (by decide +kernel)⟩⟩
theorem wd522 : Cond.methodLink RX1 63 yX4_passHour ∈ tblG := gw5 148 (by decide +kernel) (by decide +kernel)
theorem lk_X1_63 : LkV RX1 63 4 yX4_passHour cX4_passHour 3 none 1 := ⟨⟨TX4, 9, rfl⟩, wd522, wd142, wd143, wd48, wd144, pl_X4_passHour⟩
theorem wd523 : Cond.methodLink RX1 43 yX1_branch ∈ tblG := gw5 140 (by decide +kernel) (by decide +kernel)
theorem wd524 : Cond.static yX1_branch ∈ tblG := gw5 141 (by decide +kernel) (by decide +kernel)
theorem wd525 : Cond.code yX1_branch cX1_branch 7 none ∈ tblG := gw5 142 (by decide +kernel) (by decide +kernel)
theorem pl_X1_branch : Plain yX1_branch 5 := ⟨by decide, by decide, by decide +kernel⟩
theorem lk_X1_43 : LkS RX1 43 yX1_branch cX1_branch 7 none 5 := ⟨wd523, wd524, wd520, wd525, pl_X1_branch⟩
theorem wd526 : Cond.methodLink RX1 27 yJ7_fill_d0a16 ∈ tblG := gw5 134 (by decide +kernel) (by decide +kernel)
theorem wd527 : Cond.static yJ7_fill_d0a16 ∈ tblG := gw5 135 (by decide +kernel) (by decide +kernel)
theorem wd528 : Cond.code yJ7_fill_d0a16 cJ7_fill_d0a16 5 none ∈ tblG := gw5 136 (by decide +kernel) (by decide +kernel)
theorem pl_J7_fill_d0a16 : Plain yJ7_fill_d0a16 2 := ⟨by decide, by decide, by decide +kernel⟩
theorem lk_X1_27 : LkS RX1 27 yJ7_fill_d0a16 cJ7_fill_d0a16 5 none 2 := ⟨wd526, wd527, wd102, wd528, pl_J7_fill_d0a16⟩
theorem wd529 : Cond.fieldLink RX1 19 RX1 "whole" "J" ∈ tblG := gw2 12 (by decide +kernel) (by decide +kernel)
theorem fk_X1_19 : FLk RX1 19 1 3 (.long) false := ⟨RX1, TX1, 4, tyX1, clX1, by decide, rfl, rfl, rfl, Or.inl wd529⟩
theorem wd530 : Cond.methodLink RX1 35 yX4_prepare ∈ tblG := gw5 138 (by decide +kernel) (by decide +kernel)
theorem lk_X1_35 : LkV RX1 35 4 yX4_prepare cX4_prepare 1 none 0 := ⟨⟨TX4, 9, rfl⟩, wd530, wd319, wd320, wd48, wd321, pl_X4_prepare⟩
theorem wd531 : Cond.methodLink RX1 40 yX4_begin ∈ tblG := gw5 139 (by decide +kernel) (by decide +kernel)
theorem lk_X1_40 : LkV RX1 40 4 yX4_begin cX4_begin 2 none 0 := ⟨⟨TX4, 9, rfl⟩, wd531, wd138, wd139, wd48, wd140, pl_X4_begin⟩
theorem wd532 : Cond.constantLong RX7 330 (-2) ∈ tblG := gw5 129 (by decide +kernel) (by decide +kernel)
theorem wd533 : Cond.methodLink RX7 327 yX7_isFogHour ∈ tblG := gw5 125 (by decide +kernel) (by decide +kernel)
theorem wd534 : Cond.instanceMethod yX7_isFogHour ∈ tblG := gw5 127 (by decide +kernel) (by decide +kernel)
theorem wd535 : Cond.selects RX7 yX7_isFogHour yX7_isFogHour ∈ tblG := gw0 42 (by decide +kernel) (by decide +kernel)
theorem wd536 : Cond.code yX7_isFogHour cX7_isFogHour 2 (some .boolean) ∈ tblG := gw5 128 (by decide +kernel) (by decide +kernel)
theorem pl_X7_isFogHour : Plain yX7_isFogHour 1 := ⟨by decide, by decide, by decide +kernel⟩
theorem lk_X7_327 : LkV RX7 327 7 yX7_isFogHour cX7_isFogHour 2 (some .boolean) 1 := ⟨⟨TX7, 12, rfl⟩, wd533, wd534, wd535, wd207, wd536, pl_X7_isFogHour⟩
theorem wd537 : Cond.fieldLink RX7 58 RX7 "fog" "LObligingPosts$Fog;" ∈ tblG := gw2 32 (by decide +kernel) (by decide +kernel)
theorem fk_X7_58 : FLk RX7 58 7 8 (.object "ObligingPosts$Fog") true := ⟨RX7, TX7, 12, tyX7, clX7, by decide, rfl, rfl, rfl, Or.inl wd537⟩
theorem wd538 : Cond.methodLink RX7 332 yX1_learn ∈ tblG := gw5 130 (by decide +kernel) (by decide +kernel)
theorem wd539 : Cond.instanceMethod yX1_learn ∈ tblG := gw5 131 (by decide +kernel) (by decide +kernel)
theorem wd540 : Cond.selects RX1 yX1_learn yX1_learn ∈ tblG := gw5 132 (by decide +kernel) (by decide +kernel)
theorem wd541 : Cond.code yX1_learn cX1_learn 4 none ∈ tblG := gw5 133 (by decide +kernel) (by decide +kernel)
theorem pl_X1_learn : Plain yX1_learn 2 := ⟨by decide, by decide, by decide +kernel⟩
theorem lk_X7_332 : LkV RX7 332 1 yX1_learn cX1_learn 4 none 2 := ⟨⟨TX1, 4, rfl⟩, wd538, wd539, wd540, wd520, wd541, pl_X1_learn⟩
theorem fk_X7_336 : FLk RX7 336 1 2 (.array .long) true := ⟨RX1, TX1, 4, tyX1, clX1, by decide, rfl, rfl, rfl, Or.inr ⟨"ObligingPosts", List.mem_of_getElem? (i := 15) (by decide +kernel)⟩⟩
theorem fk_X7_340 : FLk RX7 340 1 3 (.long) false := ⟨RX1, TX1, 4, tyX1, clX1, by decide, rfl, rfl, rfl, Or.inr ⟨"ObligingPosts", List.mem_of_getElem? (i := 16) (by decide +kernel)⟩⟩
theorem wd542 : Cond.methodLink RX7 319 yX7_partOfFraction ∈ tblG := gw5 100 (by decide +kernel) (by decide +kernel)
theorem wd543 : Cond.static yX7_partOfFraction ∈ tblG := gw5 101 (by decide +kernel) (by decide +kernel)
theorem wd544 : Cond.code yX7_partOfFraction cX7_partOfFraction 7 (some .long) ∈ tblG := gw5 102 (by decide +kernel) (by decide +kernel)
theorem pl_X7_partOfFraction : Plain yX7_partOfFraction 3 := ⟨by decide, by decide, by decide +kernel⟩
theorem lk_X7_319 : LkS RX7 319 yX7_partOfFraction cX7_partOfFraction 7 (some .long) 3 := ⟨wd542, wd543, wd207, wd544, pl_X7_partOfFraction⟩
theorem wd545 : Cond.methodLink RX7 361 yX7_isSeed ∈ tblG := gw5 182 (by decide +kernel) (by decide +kernel)
theorem wd546 : Cond.static yX7_isSeed ∈ tblG := gw5 183 (by decide +kernel) (by decide +kernel)
theorem wd547 : Cond.code yX7_isSeed cX7_isSeed 1 (some .boolean) ∈ tblG := gw5 184 (by decide +kernel) (by decide +kernel)
theorem pl_X7_isSeed : Plain yX7_isSeed 1 := ⟨by decide, by decide, by decide +kernel⟩
theorem lk_X7_361 : LkS RX7 361 yX7_isSeed cX7_isSeed 1 (some .boolean) 1 := ⟨wd545, wd546, wd207, wd547, pl_X7_isSeed⟩
theorem wd548 : Cond.methodLink RX7 364 yX1_drawnFrom ∈ tblG := gw5 186 (by decide +kernel) (by decide +kernel)
theorem wd549 : Cond.instanceMethod yX1_drawnFrom ∈ tblG := gw5 187 (by decide +kernel) (by decide +kernel)
theorem wd550 : Cond.selects RX1 yX1_drawnFrom yX1_drawnFrom ∈ tblG := gw5 188 (by decide +kernel) (by decide +kernel)
theorem wd551 : Cond.code yX1_drawnFrom cX1_drawnFrom 7 (some .int) ∈ tblG := gw5 189 (by decide +kernel) (by decide +kernel)
theorem pl_X1_drawnFrom : Plain yX1_drawnFrom 1 := ⟨by decide, by decide, by decide +kernel⟩
theorem lk_X7_364 : LkV RX7 364 1 yX1_drawnFrom cX1_drawnFrom 7 (some .int) 1 := ⟨⟨TX1, 4, rfl⟩, wd548, wd549, wd550, wd520, wd551, pl_X1_drawnFrom⟩
theorem wd552 : Cond.methodLink RX7 368 yX7_insideByFog ∈ tblG := gw5 194 (by decide +kernel) (by decide +kernel)
theorem wd553 : Cond.instanceMethod yX7_insideByFog ∈ tblG := gw5 196 (by decide +kernel) (by decide +kernel)
theorem wd554 : Cond.selects RX7 yX7_insideByFog yX7_insideByFog ∈ tblG := gw0 44 (by decide +kernel) (by decide +kernel)
theorem wd555 : Cond.code yX7_insideByFog cX7_insideByFog 2 (some .int) ∈ tblG := gw5 197 (by decide +kernel) (by decide +kernel)
theorem pl_X7_insideByFog : Plain yX7_insideByFog 1 := ⟨by decide, by decide, by decide +kernel⟩
theorem lk_X7_368 : LkV RX7 368 7 yX7_insideByFog cX7_insideByFog 2 (some .int) 1 := ⟨⟨TX7, 12, rfl⟩, wd552, wd553, wd554, wd207, wd555, pl_X7_insideByFog⟩
theorem fk_X7_73 : FLk RX7 73 6 1 (.int) false := ⟨RX6, TX6, 8, tyX6, clX6, by decide, rfl, rfl, rfl, Or.inr ⟨"ObligingPosts", List.mem_of_getElem? (i := 0) (by decide +kernel)⟩⟩
theorem wd556 : Cond.methodLink RX7 77 yX6_append ∈ tblG := gw2 65 (by decide +kernel) (by decide +kernel)
theorem wd557 : Cond.instanceMethod yX6_append ∈ tblG := gw2 66 (by decide +kernel) (by decide +kernel)
theorem wd558 : Cond.selects RX6 yX6_append yX6_append ∈ tblG := gw2 67 (by decide +kernel) (by decide +kernel)
theorem wd559 : Cond.code yX6_append cX6_append 3 none ∈ tblG := gw2 68 (by decide +kernel) (by decide +kernel)
theorem pl_X6_append : Plain yX6_append 1 := ⟨by decide, by decide, by decide +kernel⟩
theorem lk_X7_77 : LkV RX7 77 6 yX6_append cX6_append 3 none 1 := ⟨⟨TX6, 8, rfl⟩, wd556, wd557, wd558, wd384, wd559, pl_X6_append⟩
