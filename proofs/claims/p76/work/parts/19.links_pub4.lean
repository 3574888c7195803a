theorem dX7_heath_0 : decode cX7_heath 0 = .ok (.aload_n 0, 1) := by decide +kernel
theorem dX7_heath_1 : decode cX7_heath 1 = .ok (.getfield 12, 3) := by decide +kernel
theorem dX7_heath_4 : decode cX7_heath 4 = .ok (.aload_n 0, 1) := by decide +kernel
theorem dX7_heath_5 : decode cX7_heath 5 = .ok (.getfield 23, 3) := by decide +kernel
theorem dX7_heath_8 : decode cX7_heath 8 = .ok (.invokevirtual 81, 3) := by decide +kernel
theorem dX7_heath_11 : decode cX7_heath 11 = .ok (.aload_n 0, 1) := by decide +kernel
theorem dX7_heath_12 : decode cX7_heath 12 = .ok (.getfield 12, 3) := by decide +kernel
theorem dX7_heath_15 : decode cX7_heath 15 = .ok (.getfield 84, 3) := by decide +kernel
theorem dX7_heath_18 : decode cX7_heath 18 = .ok (.ifCond .eq 6, 3) := by decide +kernel
theorem dX7_heath_21 : decode cX7_heath 21 = .ok (.bipush (-4), 2) := by decide +kernel
theorem dX7_heath_23 : decode cX7_heath 23 = .ok (.ireturn, 1) := by decide +kernel
theorem dX7_heath_24 : decode cX7_heath 24 = .ok (.aload_n 0, 1) := by decide +kernel
theorem dX7_heath_25 : decode cX7_heath 25 = .ok (.getfield 12, 3) := by decide +kernel
theorem dX7_heath_28 : decode cX7_heath 28 = .ok (.iconst 0, 1) := by decide +kernel
theorem dX7_heath_29 : decode cX7_heath 29 = .ok (.putfield 73, 3) := by decide +kernel
theorem dX7_heath_32 : decode cX7_heath 32 = .ok (.aload_n 0, 1) := by decide +kernel
theorem dX7_heath_33 : decode cX7_heath 33 = .ok (.getfield 19, 3) := by decide +kernel
theorem dX7_heath_36 : decode cX7_heath 36 = .ok (.aload_n 0, 1) := by decide +kernel
theorem dX7_heath_37 : decode cX7_heath 37 = .ok (.getfield 23, 3) := by decide +kernel
theorem dX7_heath_40 : decode cX7_heath 40 = .ok (.invokevirtual 87, 3) := by decide +kernel
theorem dX7_heath_43 : decode cX7_heath 43 = .ok (.aload_n 0, 1) := by decide +kernel
theorem dX7_heath_44 : decode cX7_heath 44 = .ok (.invokevirtual 90, 3) := by decide +kernel
theorem dX7_heath_47 : decode cX7_heath 47 = .ok (.aload_n 0, 1) := by decide +kernel
theorem dX7_heath_48 : decode cX7_heath 48 = .ok (.getfield 19, 3) := by decide +kernel
theorem dX7_heath_51 : decode cX7_heath 51 = .ok (.getfield 93, 3) := by decide +kernel
theorem dX7_heath_54 : decode cX7_heath 54 = .ok (.ireturn, 1) := by decide +kernel
theorem dX7_refuses_0 : decode cX7_refuses 0 = .ok (.aload_n 0, 1) := by decide +kernel
theorem dX7_refuses_1 : decode cX7_refuses 1 = .ok (.getfield 19, 3) := by decide +kernel
theorem dX7_refuses_4 : decode cX7_refuses 4 = .ok (.iload_n 1, 1) := by decide +kernel
theorem dX7_refuses_5 : decode cX7_refuses 5 = .ok (.invokevirtual 99, 3) := by decide +kernel
theorem dX7_refuses_8 : decode cX7_refuses 8 = .ok (.ifCond .eq 14, 3) := by decide +kernel
theorem dX7_refuses_11 : decode cX7_refuses 11 = .ok (.aload_n 0, 1) := by decide +kernel
theorem dX7_refuses_12 : decode cX7_refuses 12 = .ok (.getfield 41, 3) := by decide +kernel
theorem dX7_refuses_15 : decode cX7_refuses 15 = .ok (.iload_n 1, 1) := by decide +kernel
theorem dX7_refuses_16 : decode cX7_refuses 16 = .ok (.invokevirtual 189, 3) := by decide +kernel
theorem dX7_refuses_19 : decode cX7_refuses 19 = .ok (.goto 5, 3) := by decide +kernel
theorem dX7_refuses_22 : decode cX7_refuses 22 = .ok (.bipush (-2), 2) := by decide +kernel
theorem dX7_refuses_24 : decode cX7_refuses 24 = .ok (.ireturn, 1) := by decide +kernel
theorem dX7_share_0 : decode cX7_share 0 = .ok (.aload_n 0, 1) := by decide +kernel
theorem dX7_share_1 : decode cX7_share 1 = .ok (.getfield 19, 3) := by decide +kernel
theorem dX7_share_4 : decode cX7_share 4 = .ok (.iload_n 1, 1) := by decide +kernel
theorem dX7_share_5 : decode cX7_share 5 = .ok (.invokevirtual 106, 3) := by decide +kernel
theorem dX7_share_8 : decode cX7_share 8 = .ok (.ifCond .eq 10, 3) := by decide +kernel
theorem dX7_share_11 : decode cX7_share 11 = .ok (.iload_n 2, 1) := by decide +kernel
theorem dX7_share_12 : decode cX7_share 12 = .ok (.invokestatic 125, 3) := by decide +kernel
theorem dX7_share_15 : decode cX7_share 15 = .ok (.ifCond .ne 7, 3) := by decide +kernel
theorem dX7_share_18 : decode cX7_share 18 = .ok (.sipush (-1000), 3) := by decide +kernel
theorem dX7_share_21 : decode cX7_share 21 = .ok (.ireturn, 1) := by decide +kernel
theorem dX7_share_22 : decode cX7_share 22 = .ok (.aload_n 0, 1) := by decide +kernel
theorem dX7_share_23 : decode cX7_share 23 = .ok (.invokevirtual 313, 3) := by decide +kernel
theorem dX7_share_26 : decode cX7_share 26 = .ok (.iconst 0, 1) := by decide +kernel
theorem dX7_share_27 : decode cX7_share 27 = .ok (.istore_n 3, 1) := by decide +kernel
theorem dX7_share_28 : decode cX7_share 28 = .ok (.iconst 0, 1) := by decide +kernel
theorem dX7_share_29 : decode cX7_share 29 = .ok (.istore 4, 2) := by decide +kernel
theorem dX7_share_31 : decode cX7_share 31 = .ok (.iload 4, 2) := by decide +kernel
theorem dX7_share_33 : decode cX7_share 33 = .ok (.iconst 1, 1) := by decide +kernel
theorem dX7_share_34 : decode cX7_share 34 = .ok (.aload_n 0, 1) := by decide +kernel
theorem dX7_share_35 : decode cX7_share 35 = .ok (.getfield 19, 3) := by decide +kernel
theorem dX7_share_38 : decode cX7_share 38 = .ok (.getfield 219, 3) := by decide +kernel
theorem dX7_share_41 : decode cX7_share 41 = .ok (.ishl, 1) := by decide +kernel
theorem dX7_share_42 : decode cX7_share 42 = .ok (.if_icmp .ge 75, 3) := by decide +kernel
theorem dX7_share_45 : decode cX7_share 45 = .ok (.iload 4, 2) := by decide +kernel
theorem dX7_share_47 : decode cX7_share 47 = .ok (.iload_n 1, 1) := by decide +kernel
theorem dX7_share_48 : decode cX7_share 48 = .ok (.ishr, 1) := by decide +kernel
theorem dX7_share_49 : decode cX7_share 49 = .ok (.iconst 1, 1) := by decide +kernel
theorem dX7_share_50 : decode cX7_share 50 = .ok (.iand, 1) := by decide +kernel
theorem dX7_share_51 : decode cX7_share 51 = .ok (.ifCond .ne 60, 3) := by decide +kernel
theorem dX7_share_54 : decode cX7_share 54 = .ok (.iload 4, 2) := by decide +kernel
theorem dX7_share_56 : decode cX7_share 56 = .ok (.invokestatic 271, 3) := by decide +kernel
theorem dX7_share_59 : decode cX7_share 59 = .ok (.istore 5, 2) := by decide +kernel
theorem dX7_share_61 : decode cX7_share 61 = .ok (.getstatic 316, 3) := by decide +kernel
theorem dX7_share_64 : decode cX7_share 64 = .ok (.iload 5, 2) := by decide +kernel
theorem dX7_share_66 : decode cX7_share 66 = .ok (.iaload, 1) := by decide +kernel
theorem dX7_share_67 : decode cX7_share 67 = .ok (.getstatic 316, 3) := by decide +kernel
theorem dX7_share_70 : decode cX7_share 70 = .ok (.aload_n 0, 1) := by decide +kernel
theorem dX7_share_71 : decode cX7_share 71 = .ok (.getfield 19, 3) := by decide +kernel
theorem dX7_share_74 : decode cX7_share 74 = .ok (.getfield 219, 3) := by decide +kernel
theorem dX7_share_77 : decode cX7_share 77 = .ok (.iconst 1, 1) := by decide +kernel
theorem dX7_share_78 : decode cX7_share 78 = .ok (.isub, 1) := by decide +kernel
theorem dX7_share_79 : decode cX7_share 79 = .ok (.iload 5, 2) := by decide +kernel
theorem dX7_share_81 : decode cX7_share 81 = .ok (.isub, 1) := by decide +kernel
theorem dX7_share_82 : decode cX7_share 82 = .ok (.iaload, 1) := by decide +kernel
theorem dX7_share_83 : decode cX7_share 83 = .ok (.imul, 1) := by decide +kernel
theorem dX7_share_84 : decode cX7_share 84 = .ok (.istore 6, 2) := by decide +kernel
theorem dX7_share_86 : decode cX7_share 86 = .ok (.iload_n 3, 1) := by decide +kernel
theorem dX7_share_87 : decode cX7_share 87 = .ok (.iload 6, 2) := by decide +kernel
theorem dX7_share_89 : decode cX7_share 89 = .ok (.aload_n 0, 1) := by decide +kernel
theorem dX7_share_90 : decode cX7_share 90 = .ok (.getfield 62, 3) := by decide +kernel
theorem dX7_share_93 : decode cX7_share 93 = .ok (.iload 4, 2) := by decide +kernel
theorem dX7_share_95 : decode cX7_share 95 = .ok (.iconst 1, 1) := by decide +kernel
theorem dX7_share_96 : decode cX7_share 96 = .ok (.iload_n 1, 1) := by decide +kernel
theorem dX7_share_97 : decode cX7_share 97 = .ok (.ishl, 1) := by decide +kernel
theorem dX7_share_98 : decode cX7_share 98 = .ok (.ior, 1) := by decide +kernel
theorem dX7_share_99 : decode cX7_share 99 = .ok (.iaload, 1) := by decide +kernel
theorem dX7_share_100 : decode cX7_share 100 = .ok (.aload_n 0, 1) := by decide +kernel
theorem dX7_share_101 : decode cX7_share 101 = .ok (.getfield 62, 3) := by decide +kernel
theorem dX7_share_104 : decode cX7_share 104 = .ok (.iload 4, 2) := by decide +kernel
theorem dX7_share_106 : decode cX7_share 106 = .ok (.iaload, 1) := by decide +kernel
theorem dX7_share_107 : decode cX7_share 107 = .ok (.isub, 1) := by decide +kernel
theorem dX7_share_108 : decode cX7_share 108 = .ok (.imul, 1) := by decide +kernel
theorem dX7_share_109 : decode cX7_share 109 = .ok (.iadd, 1) := by decide +kernel
theorem dX7_share_110 : decode cX7_share 110 = .ok (.istore_n 3, 1) := by decide +kernel
theorem dX7_share_111 : decode cX7_share 111 = .ok (.iinc 4 1, 3) := by decide +kernel
theorem dX7_share_114 : decode cX7_share 114 = .ok (.goto (-83), 3) := by decide +kernel
theorem dX7_share_117 : decode cX7_share 117 = .ok (.iload_n 3, 1) := by decide +kernel
theorem dX7_share_118 : decode cX7_share 118 = .ok (.i2l, 1) := by decide +kernel
theorem dX7_share_119 : decode cX7_share 119 = .ok (.getstatic 316, 3) := by decide +kernel
theorem dX7_share_122 : decode cX7_share 122 = .ok (.aload_n 0, 1) := by decide +kernel
theorem dX7_share_123 : decode cX7_share 123 = .ok (.getfield 19, 3) := by decide +kernel
theorem dX7_share_126 : decode cX7_share 126 = .ok (.getfield 219, 3) := by decide +kernel
theorem dX7_share_129 : decode cX7_share 129 = .ok (.iaload, 1) := by decide +kernel
theorem dX7_share_130 : decode cX7_share 130 = .ok (.i2l, 1) := by decide +kernel
theorem dX7_share_131 : decode cX7_share 131 = .ok (.iload_n 2, 1) := by decide +kernel
theorem dX7_share_132 : decode cX7_share 132 = .ok (.invokestatic 319, 3) := by decide +kernel
theorem dX7_share_135 : decode cX7_share 135 = .ok (.l2i, 1) := by decide +kernel
theorem dX7_share_136 : decode cX7_share 136 = .ok (.ireturn, 1) := by decide +kernel
theorem dX7_twists_0 : decode cX7_twists 0 = .ok (.aload_n 0, 1) := by decide +kernel
theorem dX7_twists_1 : decode cX7_twists 1 = .ok (.getfield 19, 3) := by decide +kernel
theorem dX7_twists_4 : decode cX7_twists 4 = .ok (.iload_n 1, 1) := by decide +kernel
theorem dX7_twists_5 : decode cX7_twists 5 = .ok (.invokevirtual 106, 3) := by decide +kernel
theorem dX7_twists_8 : decode cX7_twists 8 = .ok (.ifCond .eq 14, 3) := by decide +kernel
theorem dX7_twists_11 : decode cX7_twists 11 = .ok (.aload_n 0, 1) := by decide +kernel
theorem dX7_twists_12 : decode cX7_twists 12 = .ok (.getfield 19, 3) := by decide +kernel
theorem dX7_twists_15 : decode cX7_twists 15 = .ok (.iload_n 2, 1) := by decide +kernel
theorem dX7_twists_16 : decode cX7_twists 16 = .ok (.invokevirtual 149, 3) := by decide +kernel
theorem dX7_twists_19 : decode cX7_twists 19 = .ok (.ifCond .ne 6, 3) := by decide +kernel
theorem dX7_twists_22 : decode cX7_twists 22 = .ok (.bipush (-2), 2) := by decide +kernel
theorem dX7_twists_24 : decode cX7_twists 24 = .ok (.ireturn, 1) := by decide +kernel
theorem dX7_twists_25 : decode cX7_twists 25 = .ok (.aload_n 0, 1) := by decide +kernel
theorem dX7_twists_26 : decode cX7_twists 26 = .ok (.getfield 19, 3) := by decide +kernel
theorem dX7_twists_29 : decode cX7_twists 29 = .ok (.getfield 344, 3) := by decide +kernel
theorem dX7_twists_32 : decode cX7_twists 32 = .ok (.iconst 0, 1) := by decide +kernel
theorem dX7_twists_33 : decode cX7_twists 33 = .ok (.iload_n 1, 1) := by decide +kernel
theorem dX7_twists_34 : decode cX7_twists 34 = .ok (.iload_n 2, 1) := by decide +kernel
theorem dX7_twists_35 : decode cX7_twists 35 = .ok (.invokevirtual 350, 3) := by decide +kernel
theorem dX7_twists_38 : decode cX7_twists 38 = .ok (.ifCond .ne 6, 3) := by decide +kernel
theorem dX7_twists_41 : decode cX7_twists 41 = .ok (.bipush (-5), 2) := by decide +kernel
theorem dX7_twists_43 : decode cX7_twists 43 = .ok (.ireturn, 1) := by decide +kernel
theorem dX7_twists_44 : decode cX7_twists 44 = .ok (.aload_n 0, 1) := by decide +kernel
theorem dX7_twists_45 : decode cX7_twists 45 = .ok (.invokevirtual 90, 3) := by decide +kernel
theorem dX7_twists_48 : decode cX7_twists 48 = .ok (.aload_n 0, 1) := by decide +kernel
theorem dX7_twists_49 : decode cX7_twists 49 = .ok (.getfield 41, 3) := by decide +kernel
theorem dX7_twists_52 : decode cX7_twists 52 = .ok (.iload_n 1, 1) := by decide +kernel
theorem dX7_twists_53 : decode cX7_twists 53 = .ok (.aload_n 0, 1) := by decide +kernel
theorem dX7_twists_54 : decode cX7_twists 54 = .ok (.getfield 19, 3) := by decide +kernel
theorem dX7_twists_57 : decode cX7_twists 57 = .ok (.getfield 168, 3) := by decide +kernel
theorem dX7_twists_60 : decode cX7_twists 60 = .ok (.invokevirtual 140, 3) := by decide +kernel
theorem dX7_twists_63 : decode cX7_twists 63 = .ok (.ireturn, 1) := by decide +kernel
theorem dX7_holds_0 : decode cX7_holds 0 = .ok (.aload_n 0, 1) := by decide +kernel
theorem dX7_holds_1 : decode cX7_holds 1 = .ok (.getfield 19, 3) := by decide +kernel
theorem dX7_holds_4 : decode cX7_holds 4 = .ok (.iload_n 1, 1) := by decide +kernel
theorem dX7_holds_5 : decode cX7_holds 5 = .ok (.invokevirtual 122, 3) := by decide +kernel
theorem dX7_holds_8 : decode cX7_holds 8 = .ok (.ifCond .eq 14, 3) := by decide +kernel
theorem dX7_holds_11 : decode cX7_holds 11 = .ok (.aload_n 0, 1) := by decide +kernel
theorem dX7_holds_12 : decode cX7_holds 12 = .ok (.getfield 19, 3) := by decide +kernel
theorem dX7_holds_15 : decode cX7_holds 15 = .ok (.iload_n 2, 1) := by decide +kernel
theorem dX7_holds_16 : decode cX7_holds 16 = .ok (.invokevirtual 149, 3) := by decide +kernel
theorem dX7_holds_19 : decode cX7_holds 19 = .ok (.ifCond .ne 6, 3) := by decide +kernel
theorem dX7_holds_22 : decode cX7_holds 22 = .ok (.bipush (-2), 2) := by decide +kernel
theorem dX7_holds_24 : decode cX7_holds 24 = .ok (.ireturn, 1) := by decide +kernel
theorem dX7_holds_25 : decode cX7_holds 25 = .ok (.aload_n 0, 1) := by decide +kernel
theorem dX7_holds_26 : decode cX7_holds 26 = .ok (.getfield 19, 3) := by decide +kernel
theorem dX7_holds_29 : decode cX7_holds 29 = .ok (.getfield 344, 3) := by decide +kernel
theorem dX7_holds_32 : decode cX7_holds 32 = .ok (.bipush 112, 2) := by decide +kernel
theorem dX7_holds_34 : decode cX7_holds 34 = .ok (.iload_n 1, 1) := by decide +kernel
theorem dX7_holds_35 : decode cX7_holds 35 = .ok (.iload_n 2, 1) := by decide +kernel
theorem dX7_holds_36 : decode cX7_holds 36 = .ok (.invokevirtual 350, 3) := by decide +kernel
theorem dX7_holds_39 : decode cX7_holds 39 = .ok (.ifCond .ne 6, 3) := by decide +kernel
theorem dX7_holds_42 : decode cX7_holds 42 = .ok (.bipush (-5), 2) := by decide +kernel
theorem dX7_holds_44 : decode cX7_holds 44 = .ok (.ireturn, 1) := by decide +kernel
theorem dX7_holds_45 : decode cX7_holds 45 = .ok (.aload_n 0, 1) := by decide +kernel
theorem dX7_holds_46 : decode cX7_holds 46 = .ok (.invokevirtual 90, 3) := by decide +kernel
theorem dX7_holds_49 : decode cX7_holds 49 = .ok (.aload_n 0, 1) := by decide +kernel
theorem dX7_holds_50 : decode cX7_holds 50 = .ok (.getfield 41, 3) := by decide +kernel
theorem dX7_holds_53 : decode cX7_holds 53 = .ok (.iload_n 1, 1) := by decide +kernel
theorem dX7_holds_54 : decode cX7_holds 54 = .ok (.aload_n 0, 1) := by decide +kernel
theorem dX7_holds_55 : decode cX7_holds 55 = .ok (.getfield 19, 3) := by decide +kernel
theorem dX7_holds_58 : decode cX7_holds 58 = .ok (.getfield 168, 3) := by decide +kernel
theorem dX7_holds_61 : decode cX7_holds 61 = .ok (.invokevirtual 137, 3) := by decide +kernel
theorem dX7_holds_64 : decode cX7_holds 64 = .ok (.ireturn, 1) := by decide +kernel
theorem dX7_undo_0 : decode cX7_undo 0 = .ok (.aload_n 0, 1) := by decide +kernel
theorem dX7_undo_1 : decode cX7_undo 1 = .ok (.getfield 19, 3) := by decide +kernel
theorem dX7_undo_4 : decode cX7_undo 4 = .ok (.invokevirtual 198, 3) := by decide +kernel
theorem dX7_undo_7 : decode cX7_undo 7 = .ok (.ifCond .ne 6, 3) := by decide +kernel
theorem dX7_undo_10 : decode cX7_undo 10 = .ok (.bipush (-2), 2) := by decide +kernel
theorem dX7_undo_12 : decode cX7_undo 12 = .ok (.ireturn, 1) := by decide +kernel
theorem dX7_undo_13 : decode cX7_undo 13 = .ok (.aload_n 0, 1) := by decide +kernel
theorem dX7_undo_14 : decode cX7_undo 14 = .ok (.getfield 19, 3) := by decide +kernel
theorem dX7_undo_17 : decode cX7_undo 17 = .ok (.getfield 344, 3) := by decide +kernel
theorem dX7_undo_20 : decode cX7_undo 20 = .ok (.getfield 354, 3) := by decide +kernel
theorem dX7_undo_23 : decode cX7_undo 23 = .ok (.ifCond .ne 6, 3) := by decide +kernel
theorem dX7_undo_26 : decode cX7_undo 26 = .ok (.bipush (-5), 2) := by decide +kernel
theorem dX7_undo_28 : decode cX7_undo 28 = .ok (.ireturn, 1) := by decide +kernel
theorem dX7_undo_29 : decode cX7_undo 29 = .ok (.aload_n 0, 1) := by decide +kernel
theorem dX7_undo_30 : decode cX7_undo 30 = .ok (.getfield 19, 3) := by decide +kernel
theorem dX7_undo_33 : decode cX7_undo 33 = .ok (.getfield 344, 3) := by decide +kernel
theorem dX7_undo_36 : decode cX7_undo 36 = .ok (.invokevirtual 355, 3) := by decide +kernel
theorem dX7_undo_39 : decode cX7_undo 39 = .ok (.aload_n 0, 1) := by decide +kernel
theorem dX7_undo_40 : decode cX7_undo 40 = .ok (.invokevirtual 90, 3) := by decide +kernel
theorem dX7_undo_43 : decode cX7_undo 43 = .ok (.aload_n 0, 1) := by decide +kernel
theorem dX7_undo_44 : decode cX7_undo 44 = .ok (.getfield 19, 3) := by decide +kernel
theorem dX7_undo_47 : decode cX7_undo 47 = .ok (.getfield 344, 3) := by decide +kernel
theorem dX7_undo_50 : decode cX7_undo 50 = .ok (.getfield 354, 3) := by decide +kernel
theorem dX7_undo_53 : decode cX7_undo 53 = .ok (.ireturn, 1) := by decide +kernel
theorem dX7_anew_0 : decode cX7_anew 0 = .ok (.aload_n 0, 1) := by decide +kernel
theorem dX7_anew_1 : decode cX7_anew 1 = .ok (.getfield 19, 3) := by decide +kernel
theorem dX7_anew_4 : decode cX7_anew 4 = .ok (.invokevirtual 198, 3) := by decide +kernel
theorem dX7_anew_7 : decode cX7_anew 7 = .ok (.ifCond .ne 6, 3) := by decide +kernel
theorem dX7_anew_10 : decode cX7_anew 10 = .ok (.bipush (-2), 2) := by decide +kernel
theorem dX7_anew_12 : decode cX7_anew 12 = .ok (.ireturn, 1) := by decide +kernel
theorem dX7_anew_13 : decode cX7_anew 13 = .ok (.aload_n 0, 1) := by decide +kernel
theorem dX7_anew_14 : decode cX7_anew 14 = .ok (.getfield 19, 3) := by decide +kernel
theorem dX7_anew_17 : decode cX7_anew 17 = .ok (.getfield 344, 3) := by decide +kernel
theorem dX7_anew_20 : decode cX7_anew 20 = .ok (.getfield 354, 3) := by decide +kernel
theorem dX7_anew_23 : decode cX7_anew 23 = .ok (.istore_n 1, 1) := by decide +kernel
theorem dX7_anew_24 : decode cX7_anew 24 = .ok (.aload_n 0, 1) := by decide +kernel
theorem dX7_anew_25 : decode cX7_anew 25 = .ok (.getfield 19, 3) := by decide +kernel
theorem dX7_anew_28 : decode cX7_anew 28 = .ok (.getfield 344, 3) := by decide +kernel
theorem dX7_anew_31 : decode cX7_anew 31 = .ok (.invokevirtual 358, 3) := by decide +kernel
theorem dX7_anew_34 : decode cX7_anew 34 = .ok (.aload_n 0, 1) := by decide +kernel
theorem dX7_anew_35 : decode cX7_anew 35 = .ok (.invokevirtual 90, 3) := by decide +kernel
theorem dX7_anew_38 : decode cX7_anew 38 = .ok (.iload_n 1, 1) := by decide +kernel
theorem dX7_anew_39 : decode cX7_anew 39 = .ok (.ireturn, 1) := by decide +kernel
theorem dX7_rate_0 : decode cX7_rate 0 = .ok (.aload_n 0, 1) := by decide +kernel
theorem dX7_rate_1 : decode cX7_rate 1 = .ok (.getfield 19, 3) := by decide +kernel
theorem dX7_rate_4 : decode cX7_rate 4 = .ok (.iload_n 1, 1) := by decide +kernel
theorem dX7_rate_5 : decode cX7_rate 5 = .ok (.invokevirtual 99, 3) := by decide +kernel
theorem dX7_rate_8 : decode cX7_rate 8 = .ok (.ifCond .eq 13, 3) := by decide +kernel
theorem dX7_rate_11 : decode cX7_rate 11 = .ok (.iload_n 2, 1) := by decide +kernel
theorem dX7_rate_12 : decode cX7_rate 12 = .ok (.ifCond .lt 9, 3) := by decide +kernel
theorem dX7_rate_15 : decode cX7_rate 15 = .ok (.iload_n 2, 1) := by decide +kernel
theorem dX7_rate_16 : decode cX7_rate 16 = .ok (.bipush 9, 2) := by decide +kernel
theorem dX7_rate_18 : decode cX7_rate 18 = .ok (.if_icmp .le 6, 3) := by decide +kernel
theorem dX7_rate_21 : decode cX7_rate 21 = .ok (.bipush (-2), 2) := by decide +kernel
theorem dX7_rate_23 : decode cX7_rate 23 = .ok (.ireturn, 1) := by decide +kernel
theorem dX7_rate_24 : decode cX7_rate 24 = .ok (.aload_n 0, 1) := by decide +kernel
theorem dX7_rate_25 : decode cX7_rate 25 = .ok (.getfield 19, 3) := by decide +kernel
theorem dX7_rate_28 : decode cX7_rate 28 = .ok (.getfield 344, 3) := by decide +kernel
theorem dX7_rate_31 : decode cX7_rate 31 = .ok (.getfield 354, 3) := by decide +kernel
theorem dX7_rate_34 : decode cX7_rate 34 = .ok (.ifCond .le 6, 3) := by decide +kernel
theorem dX7_rate_37 : decode cX7_rate 37 = .ok (.bipush (-5), 2) := by decide +kernel
theorem dX7_rate_39 : decode cX7_rate 39 = .ok (.ireturn, 1) := by decide +kernel
theorem dX7_rate_40 : decode cX7_rate 40 = .ok (.aload_n 0, 1) := by decide +kernel
theorem dX7_rate_41 : decode cX7_rate 41 = .ok (.getfield 19, 3) := by decide +kernel
theorem dX7_rate_44 : decode cX7_rate 44 = .ok (.getfield 103, 3) := by decide +kernel
theorem dX7_rate_47 : decode cX7_rate 47 = .ok (.iload_n 1, 1) := by decide +kernel
theorem dX7_rate_48 : decode cX7_rate 48 = .ok (.iaload, 1) := by decide +kernel
theorem dX7_rate_49 : decode cX7_rate 49 = .ok (.istore_n 3, 1) := by decide +kernel
theorem dX7_rate_50 : decode cX7_rate 50 = .ok (.aload_n 0, 1) := by decide +kernel
theorem dX7_rate_51 : decode cX7_rate 51 = .ok (.getfield 19, 3) := by decide +kernel
theorem dX7_rate_54 : decode cX7_rate 54 = .ok (.getfield 103, 3) := by decide +kernel
theorem dX7_rate_57 : decode cX7_rate 57 = .ok (.iload_n 1, 1) := by decide +kernel
theorem dX7_rate_58 : decode cX7_rate 58 = .ok (.iload_n 2, 1) := by decide +kernel
theorem dX7_rate_59 : decode cX7_rate 59 = .ok (.iastore, 1) := by decide +kernel
theorem dX7_rate_60 : decode cX7_rate 60 = .ok (.aload_n 0, 1) := by decide +kernel
theorem dX7_rate_61 : decode cX7_rate 61 = .ok (.invokevirtual 90, 3) := by decide +kernel
theorem dX7_rate_64 : decode cX7_rate 64 = .ok (.iload_n 3, 1) := by decide +kernel
theorem dX7_rate_65 : decode cX7_rate 65 = .ok (.ireturn, 1) := by decide +kernel
theorem dX7_count_0 : decode cX7_count 0 = .ok (.iload_n 1, 1) := by decide +kernel
theorem dX7_count_1 : decode cX7_count 1 = .ok (.tableswitch 159 0 11 #[63, 71, 79, 87, 95, 103, 111, 119, 127, 138, 146, 154], 63) := by decide +kernel
theorem dX7_count_64 : decode cX7_count 64 = .ok (.aload_n 0, 1) := by decide +kernel
theorem dX7_count_65 : decode cX7_count 65 = .ok (.getfield 19, 3) := by decide +kernel
theorem dX7_count_68 : decode cX7_count 68 = .ok (.getfield 168, 3) := by decide +kernel
theorem dX7_count_71 : decode cX7_count 71 = .ok (.ireturn, 1) := by decide +kernel
theorem dX7_count_72 : decode cX7_count 72 = .ok (.aload_n 0, 1) := by decide +kernel
theorem dX7_count_73 : decode cX7_count 73 = .ok (.getfield 19, 3) := by decide +kernel
theorem dX7_count_76 : decode cX7_count 76 = .ok (.getfield 371, 3) := by decide +kernel
theorem dX7_count_79 : decode cX7_count 79 = .ok (.ireturn, 1) := by decide +kernel
theorem dX7_count_80 : decode cX7_count 80 = .ok (.aload_n 0, 1) := by decide +kernel
theorem dX7_count_81 : decode cX7_count 81 = .ok (.getfield 19, 3) := by decide +kernel
theorem dX7_count_84 : decode cX7_count 84 = .ok (.getfield 374, 3) := by decide +kernel
theorem dX7_count_87 : decode cX7_count 87 = .ok (.ireturn, 1) := by decide +kernel
theorem dX7_count_88 : decode cX7_count 88 = .ok (.aload_n 0, 1) := by decide +kernel
theorem dX7_count_89 : decode cX7_count 89 = .ok (.getfield 19, 3) := by decide +kernel
theorem dX7_count_92 : decode cX7_count 92 = .ok (.getfield 377, 3) := by decide +kernel
theorem dX7_count_95 : decode cX7_count 95 = .ok (.ireturn, 1) := by decide +kernel
theorem dX7_count_96 : decode cX7_count 96 = .ok (.aload_n 0, 1) := by decide +kernel
theorem dX7_count_97 : decode cX7_count 97 = .ok (.getfield 19, 3) := by decide +kernel
theorem dX7_count_100 : decode cX7_count 100 = .ok (.getfield 219, 3) := by decide +kernel
theorem dX7_count_103 : decode cX7_count 103 = .ok (.ireturn, 1) := by decide +kernel
theorem dX7_count_104 : decode cX7_count 104 = .ok (.aload_n 0, 1) := by decide +kernel
theorem dX7_count_105 : decode cX7_count 105 = .ok (.getfield 19, 3) := by decide +kernel
theorem dX7_count_108 : decode cX7_count 108 = .ok (.getfield 380, 3) := by decide +kernel
theorem dX7_count_111 : decode cX7_count 111 = .ok (.ireturn, 1) := by decide +kernel
theorem dX7_count_112 : decode cX7_count 112 = .ok (.aload_n 0, 1) := by decide +kernel
theorem dX7_count_113 : decode cX7_count 113 = .ok (.getfield 19, 3) := by decide +kernel
theorem dX7_count_116 : decode cX7_count 116 = .ok (.getfield 383, 3) := by decide +kernel
theorem dX7_count_119 : decode cX7_count 119 = .ok (.ireturn, 1) := by decide +kernel
theorem dX7_count_120 : decode cX7_count 120 = .ok (.aload_n 0, 1) := by decide +kernel
theorem dX7_count_121 : decode cX7_count 121 = .ok (.getfield 19, 3) := by decide +kernel
theorem dX7_count_124 : decode cX7_count 124 = .ok (.getfield 276, 3) := by decide +kernel
theorem dX7_count_127 : decode cX7_count 127 = .ok (.ireturn, 1) := by decide +kernel
theorem dX7_count_128 : decode cX7_count 128 = .ok (.aload_n 0, 1) := by decide +kernel
theorem dX7_count_129 : decode cX7_count 129 = .ok (.getfield 19, 3) := by decide +kernel
theorem dX7_count_132 : decode cX7_count 132 = .ok (.getfield 344, 3) := by decide +kernel
theorem dX7_count_135 : decode cX7_count 135 = .ok (.getfield 354, 3) := by decide +kernel
theorem dX7_count_138 : decode cX7_count 138 = .ok (.ireturn, 1) := by decide +kernel
theorem dX7_count_139 : decode cX7_count 139 = .ok (.aload_n 0, 1) := by decide +kernel
theorem dX7_count_140 : decode cX7_count 140 = .ok (.getfield 19, 3) := by decide +kernel
theorem dX7_count_143 : decode cX7_count 143 = .ok (.getfield 93, 3) := by decide +kernel
theorem dX7_count_146 : decode cX7_count 146 = .ok (.ireturn, 1) := by decide +kernel
theorem dX7_count_147 : decode cX7_count 147 = .ok (.aload_n 0, 1) := by decide +kernel
theorem dX7_count_148 : decode cX7_count 148 = .ok (.getfield 12, 3) := by decide +kernel
theorem dX7_count_151 : decode cX7_count 151 = .ok (.getfield 73, 3) := by decide +kernel
theorem dX7_count_154 : decode cX7_count 154 = .ok (.ireturn, 1) := by decide +kernel
theorem dX7_count_155 : decode cX7_count 155 = .ok (.aload_n 0, 1) := by decide +kernel
theorem dX7_count_156 : decode cX7_count 156 = .ok (.invokevirtual 386, 3) := by decide +kernel
theorem dX7_count_159 : decode cX7_count 159 = .ok (.ireturn, 1) := by decide +kernel
theorem dX7_count_160 : decode cX7_count 160 = .ok (.iconst (-1), 1) := by decide +kernel
theorem dX7_count_161 : decode cX7_count 161 = .ok (.ireturn, 1) := by decide +kernel
theorem dX7_changed_0 : decode cX7_changed 0 = .ok (.aload_n 0, 1) := by decide +kernel
theorem dX7_changed_1 : decode cX7_changed 1 = .ok (.iconst 0, 1) := by decide +kernel
theorem dX7_changed_2 : decode cX7_changed 2 = .ok (.putfield 66, 3) := by decide +kernel
theorem dX7_changed_5 : decode cX7_changed 5 = .ok (.aload_n 0, 1) := by decide +kernel
theorem dX7_changed_6 : decode cX7_changed 6 = .ok (.getfield 58, 3) := by decide +kernel
theorem dX7_changed_9 : decode cX7_changed 9 = .ok (.invokevirtual 415, 3) := by decide +kernel
theorem dX7_changed_12 : decode cX7_changed 12 = .ok (.aload_n 0, 1) := by decide +kernel
theorem dX7_changed_13 : decode cX7_changed 13 = .ok (.getfield 41, 3) := by decide +kernel
theorem dX7_changed_16 : decode cX7_changed 16 = .ok (.invokevirtual 279, 3) := by decide +kernel
theorem dX7_changed_19 : decode cX7_changed 19 = .ok (.aload_n 0, 1) := by decide +kernel
theorem dX7_changed_20 : decode cX7_changed 20 = .ok (.getfield 41, 3) := by decide +kernel
theorem dX7_changed_23 : decode cX7_changed 23 = .ok (.invokevirtual 285, 3) := by decide +kernel
theorem dX7_changed_26 : decode cX7_changed 26 = .ok (.return_, 1) := by decide +kernel
theorem dX7_learnWorths_0 : decode cX7_learnWorths 0 = .ok (.aload_n 0, 1) := by decide +kernel
theorem dX7_learnWorths_1 : decode cX7_learnWorths 1 = .ok (.getfield 66, 3) := by decide +kernel
theorem dX7_learnWorths_4 : decode cX7_learnWorths 4 = .ok (.ifCond .eq 4, 3) := by decide +kernel
theorem dX7_learnWorths_7 : decode cX7_learnWorths 7 = .ok (.return_, 1) := by decide +kernel
theorem dX7_learnWorths_8 : decode cX7_learnWorths 8 = .ok (.iconst 0, 1) := by decide +kernel
theorem dX7_learnWorths_9 : decode cX7_learnWorths 9 = .ok (.istore_n 1, 1) := by decide +kernel
theorem dX7_learnWorths_10 : decode cX7_learnWorths 10 = .ok (.iload_n 1, 1) := by decide +kernel
theorem dX7_learnWorths_11 : decode cX7_learnWorths 11 = .ok (.iconst 1, 1) := by decide +kernel
theorem dX7_learnWorths_12 : decode cX7_learnWorths 12 = .ok (.aload_n 0, 1) := by decide +kernel
theorem dX7_learnWorths_13 : decode cX7_learnWorths 13 = .ok (.getfield 19, 3) := by decide +kernel
theorem dX7_learnWorths_16 : decode cX7_learnWorths 16 = .ok (.getfield 219, 3) := by decide +kernel
theorem dX7_learnWorths_19 : decode cX7_learnWorths 19 = .ok (.ishl, 1) := by decide +kernel
theorem dX7_learnWorths_20 : decode cX7_learnWorths 20 = .ok (.if_icmp .ge 20, 3) := by decide +kernel
theorem dX7_learnWorths_23 : decode cX7_learnWorths 23 = .ok (.aload_n 0, 1) := by decide +kernel
theorem dX7_learnWorths_24 : decode cX7_learnWorths 24 = .ok (.getfield 62, 3) := by decide +kernel
theorem dX7_learnWorths_27 : decode cX7_learnWorths 27 = .ok (.iload_n 1, 1) := by decide +kernel
theorem dX7_learnWorths_28 : decode cX7_learnWorths 28 = .ok (.aload_n 0, 1) := by decide +kernel
theorem dX7_learnWorths_29 : decode cX7_learnWorths 29 = .ok (.iload_n 1, 1) := by decide +kernel
theorem dX7_learnWorths_30 : decode cX7_learnWorths 30 = .ok (.invokevirtual 310, 3) := by decide +kernel
theorem dX7_learnWorths_33 : decode cX7_learnWorths 33 = .ok (.iastore, 1) := by decide +kernel
theorem dX7_learnWorths_34 : decode cX7_learnWorths 34 = .ok (.iinc 1 1, 3) := by decide +kernel
theorem dX7_learnWorths_37 : decode cX7_learnWorths 37 = .ok (.goto (-27), 3) := by decide +kernel
theorem dX7_learnWorths_40 : decode cX7_learnWorths 40 = .ok (.aload_n 0, 1) := by decide +kernel
theorem dX7_learnWorths_41 : decode cX7_learnWorths 41 = .ok (.iconst 1, 1) := by decide +kernel
theorem dX7_learnWorths_42 : decode cX7_learnWorths 42 = .ok (.putfield 66, 3) := by decide +kernel
theorem dX7_learnWorths_45 : decode cX7_learnWorths 45 = .ok (.return_, 1) := by decide +kernel
theorem dX7_slotsWithRow_0 : decode cX7_slotsWithRow 0 = .ok (.iconst 0, 1) := by decide +kernel
theorem dX7_slotsWithRow_1 : decode cX7_slotsWithRow 1 = .ok (.istore_n 1, 1) := by decide +kernel
theorem dX7_slotsWithRow_2 : decode cX7_slotsWithRow 2 = .ok (.iconst 0, 1) := by decide +kernel
theorem dX7_slotsWithRow_3 : decode cX7_slotsWithRow 3 = .ok (.istore_n 2, 1) := by decide +kernel
theorem dX7_slotsWithRow_4 : decode cX7_slotsWithRow 4 = .ok (.iload_n 2, 1) := by decide +kernel
theorem dX7_slotsWithRow_5 : decode cX7_slotsWithRow 5 = .ok (.iconst 4, 1) := by decide +kernel
theorem dX7_slotsWithRow_6 : decode cX7_slotsWithRow 6 = .ok (.if_icmp .ge 21, 3) := by decide +kernel
theorem dX7_slotsWithRow_9 : decode cX7_slotsWithRow 9 = .ok (.aload_n 0, 1) := by decide +kernel
theorem dX7_slotsWithRow_10 : decode cX7_slotsWithRow 10 = .ok (.getfield 32, 3) := by decide +kernel
theorem dX7_slotsWithRow_13 : decode cX7_slotsWithRow 13 = .ok (.iload_n 2, 1) := by decide +kernel
theorem dX7_slotsWithRow_14 : decode cX7_slotsWithRow 14 = .ok (.aaload, 1) := by decide +kernel
theorem dX7_slotsWithRow_15 : decode cX7_slotsWithRow 15 = .ok (.ifnull 6, 3) := by decide +kernel
theorem dX7_slotsWithRow_18 : decode cX7_slotsWithRow 18 = .ok (.iinc 1 1, 3) := by decide +kernel
theorem dX7_slotsWithRow_21 : decode cX7_slotsWithRow 21 = .ok (.iinc 2 1, 3) := by decide +kernel
theorem dX7_slotsWithRow_24 : decode cX7_slotsWithRow 24 = .ok (.goto (-20), 3) := by decide +kernel
theorem dX7_slotsWithRow_27 : decode cX7_slotsWithRow 27 = .ok (.iload_n 1, 1) := by decide +kernel
theorem dX7_slotsWithRow_28 : decode cX7_slotsWithRow 28 = .ok (.ireturn, 1) := by decide +kernel
theorem wd560 : Cond.fieldLink RX7 66 RX7 "worthsKnown" "Z" ∈ tblG := gw2 34 (by decide +kernel) (by decide +kernel)
theorem fk_X7_66 : FLk RX7 66 7 10 (.boolean) false := ⟨RX7, TX7, 12, tyX7, clX7, by decide, rfl, rfl, rfl, Or.inl wd560⟩
theorem wd561 : Cond.methodLink RX7 415 yX1_forget ∈ tblG := gw3 7 (by decide +kernel) (by decide +kernel)
theorem wd562 : Cond.instanceMethod yX1_forget ∈ tblG := gw3 8 (by decide +kernel) (by decide +kernel)
theorem wd563 : Cond.selects RX1 yX1_forget yX1_forget ∈ tblG := gw3 9 (by decide +kernel) (by decide +kernel)
theorem wd564 : Cond.code yX1_forget cX1_forget 1 none ∈ tblG := gw3 10 (by decide +kernel) (by decide +kernel)
theorem pl_X1_forget : Plain yX1_forget 0 := ⟨by decide, by decide, by decide +kernel⟩
theorem lk_X7_415 : LkV RX7 415 1 yX1_forget cX1_forget 1 none 0 := ⟨⟨TX1, 4, rfl⟩, wd561, wd562, wd563, wd520, wd564, pl_X1_forget⟩
theorem fk_X7_344 : FLk RX7 344 2 15 (.object "ObligingPosts$Acts") true := ⟨RX2, TX2, 16, tyX2, clX2, by decide, rfl, rfl, rfl, Or.inr ⟨"ObligingPosts", List.mem_of_getElem? (i := 17) (by decide +kernel)⟩⟩
theorem wd565 : Cond.methodLink RX7 350 yX0_add ∈ tblG := gw5 157 (by decide +kernel) (by decide +kernel)
theorem wd566 : Cond.instanceMethod yX0_add ∈ tblG := gw5 158 (by decide +kernel) (by decide +kernel)
theorem wd567 : Cond.selects RX0 yX0_add yX0_add ∈ tblG := gw5 159 (by decide +kernel) (by decide +kernel)
theorem wd568 : Cond.code yX0_add cX0_add 4 (some .boolean) ∈ tblG := gw5 160 (by decide +kernel) (by decide +kernel)
theorem pl_X0_add : Plain yX0_add 3 := ⟨by decide, by decide, by decide +kernel⟩
theorem lk_X7_350 : LkV RX7 350 0 yX0_add cX0_add 4 (some .boolean) 3 := ⟨⟨TX0, 3, rfl⟩, wd565, wd566, wd567, wd93, wd568, pl_X0_add⟩
theorem wd569 : Cond.methodLink RX7 90 yX7_changed ∈ tblG := gw3 3 (by decide +kernel) (by decide +kernel)
theorem wd570 : Cond.instanceMethod yX7_changed ∈ tblG := gw3 5 (by decide +kernel) (by decide +kernel)
theorem wd571 : Cond.selects RX7 yX7_changed yX7_changed ∈ tblG := gw0 15 (by decide +kernel) (by decide +kernel)
theorem wd572 : Cond.code yX7_changed cX7_changed 1 none ∈ tblG := gw3 6 (by decide +kernel) (by decide +kernel)
theorem pl_X7_changed : Plain yX7_changed 0 := ⟨by decide, by decide, by decide +kernel⟩
theorem lk_X7_90 : LkV RX7 90 7 yX7_changed cX7_changed 1 none 0 := ⟨⟨TX7, 12, rfl⟩, wd569, wd570, wd571, wd207, wd572, pl_X7_changed⟩
theorem fk_X7_354 : FLk RX7 354 0 0 (.int) false := ⟨RX0, TX0, 3, tyX0, clX0, by decide, rfl, rfl, rfl, Or.inr ⟨"ObligingPosts", List.mem_of_getElem? (i := 18) (by decide +kernel)⟩⟩
theorem wd573 : Cond.methodLink RX7 355 yX0_takeBack ∈ tblG := gw5 169 (by decide +kernel) (by decide +kernel)
theorem wd574 : Cond.instanceMethod yX0_takeBack ∈ tblG := gw5 170 (by decide +kernel) (by decide +kernel)
theorem wd575 : Cond.selects RX0 yX0_takeBack yX0_takeBack ∈ tblG := gw5 171 (by decide +kernel) (by decide +kernel)
theorem wd576 : Cond.code yX0_takeBack cX0_takeBack 1 none ∈ tblG := gw5 172 (by decide +kernel) (by decide +kernel)
theorem pl_X0_takeBack : Plain yX0_takeBack 0 := ⟨by decide, by decide, by decide +kernel⟩
theorem lk_X7_355 : LkV RX7 355 0 yX0_takeBack cX0_takeBack 1 none 0 := ⟨⟨TX0, 3, rfl⟩, wd573, wd574, wd575, wd93, wd576, pl_X0_takeBack⟩
theorem wd577 : Cond.methodLink RX7 358 yX0_clear ∈ tblG := gw5 177 (by decide +kernel) (by decide +kernel)
theorem lk_X7_358 : LkV RX7 358 0 yX0_clear cX0_clear 1 none 0 := ⟨⟨TX0, 3, rfl⟩, wd577, wd180, wd181, wd93, wd182, pl_X0_clear⟩
theorem wd578 : Cond.fieldLink RX7 23 RX7 "draft" "LObligingPosts$Heath;" ∈ tblG := gw2 26 (by decide +kernel) (by decide +kernel)
theorem fk_X7_23 : FLk RX7 23 7 2 (.object "ObligingPosts$Heath") true := ⟨RX7, TX7, 12, tyX7, clX7, by decide, rfl, rfl, rfl, Or.inl wd578⟩
theorem wd579 : Cond.methodLink RX7 81 yX6_readInto ∈ tblG := gw2 77 (by decide +kernel) (by decide +kernel)
theorem wd580 : Cond.instanceMethod yX6_readInto ∈ tblG := gw2 78 (by decide +kernel) (by decide +kernel)
theorem wd581 : Cond.selects RX6 yX6_readInto yX6_readInto ∈ tblG := gw2 79 (by decide +kernel) (by decide +kernel)
theorem wd582 : Cond.code yX6_readInto cX6_readInto 3 none ∈ tblG := gw2 80 (by decide +kernel) (by decide +kernel)
theorem pl_X6_readInto : Plain yX6_readInto 1 := ⟨by decide, by decide, by decide +kernel⟩
theorem lk_X7_81 : LkV RX7 81 6 yX6_readInto cX6_readInto 3 none 1 := ⟨⟨TX6, 8, rfl⟩, wd579, wd580, wd581, wd384, wd582, pl_X6_readInto⟩
theorem wd583 : Cond.methodLink RX7 87 yX2_copyFrom ∈ tblG := gw2 231 (by decide +kernel) (by decide +kernel)
theorem wd584 : Cond.instanceMethod yX2_copyFrom ∈ tblG := gw2 232 (by decide +kernel) (by decide +kernel)
theorem wd585 : Cond.selects RX2 yX2_copyFrom yX2_copyFrom ∈ tblG := gw2 233 (by decide +kernel) (by decide +kernel)
theorem wd586 : Cond.code yX2_copyFrom cX2_copyFrom 2 none ∈ tblG := gw2 234 (by decide +kernel) (by decide +kernel)
theorem pl_X2_copyFrom : Plain yX2_copyFrom 1 := ⟨by decide, by decide, by decide +kernel⟩
theorem lk_X7_87 : LkV RX7 87 2 yX2_copyFrom cX2_copyFrom 2 none 1 := ⟨⟨TX2, 16, rfl⟩, wd583, wd584, wd585, wd7, wd586, pl_X2_copyFrom⟩
theorem fk_X7_93 : FLk RX7 93 2 0 (.int) false := ⟨RX2, TX2, 16, tyX2, clX2, by decide, rfl, rfl, rfl, Or.inr ⟨"ObligingPosts", List.mem_of_getElem? (i := 2) (by decide +kernel)⟩⟩
theorem wd587 : Cond.methodLink RX7 189 yX4_timesRefused ∈ tblG := gw4 36 (by decide +kernel) (by decide +kernel)
theorem wd588 : Cond.instanceMethod yX4_timesRefused ∈ tblG := gw4 37 (by decide +kernel) (by decide +kernel)
theorem wd589 : Cond.selects RX4 yX4_timesRefused yX4_timesRefused ∈ tblG := gw4 38 (by decide +kernel) (by decide +kernel)
theorem wd590 : Cond.code yX4_timesRefused cX4_timesRefused 5 (some .int) ∈ tblG := gw4 39 (by decide +kernel) (by decide +kernel)
theorem pl_X4_timesRefused : Plain yX4_timesRefused 1 := ⟨by decide, by decide, by decide +kernel⟩
theorem lk_X7_189 : LkV RX7 189 4 yX4_timesRefused cX4_timesRefused 5 (some .int) 1 := ⟨⟨TX4, 9, rfl⟩, wd587, wd588, wd589, wd48, wd590, pl_X4_timesRefused⟩
theorem wd591 : Cond.fieldLink RX7 32 RX7 "slots" "[LObligingPosts$Slot;" ∈ tblG := gw2 28 (by decide +kernel) (by decide +kernel)
theorem fk_X7_32 : FLk RX7 32 7 4 (.array (.object "ObligingPosts$Slot")) true := ⟨RX7, TX7, 12, tyX7, clX7, by decide, rfl, rfl, rfl, Or.inl wd591⟩
theorem fk_X7_371 : FLk RX7 371 2 2 (.int) false := ⟨RX2, TX2, 16, tyX2, clX2, by decide, rfl, rfl, rfl, Or.inr ⟨"ObligingPosts", List.mem_of_getElem? (i := 19) (by decide +kernel)⟩⟩
theorem fk_X7_374 : FLk RX7 374 2 3 (.int) false := ⟨RX2, TX2, 16, tyX2, clX2, by decide, rfl, rfl, rfl, Or.inr ⟨"ObligingPosts", List.mem_of_getElem? (i := 20) (by decide +kernel)⟩⟩
theorem fk_X7_377 : FLk RX7 377 2 4 (.int) false := ⟨RX2, TX2, 16, tyX2, clX2, by decide, rfl, rfl, rfl, Or.inr ⟨"ObligingPosts", List.mem_of_getElem? (i := 21) (by decide +kernel)⟩⟩
theorem fk_X7_380 : FLk RX7 380 2 6 (.int) false := ⟨RX2, TX2, 16, tyX2, clX2, by decide, rfl, rfl, rfl, Or.inr ⟨"ObligingPosts", List.mem_of_getElem? (i := 22) (by decide +kernel)⟩⟩
theorem fk_X7_383 : FLk RX7 383 2 7 (.int) false := ⟨RX2, TX2, 16, tyX2, clX2, by decide, rfl, rfl, rfl, Or.inr ⟨"ObligingPosts", List.mem_of_getElem? (i := 23) (by decide +kernel)⟩⟩
theorem wd592 : Cond.methodLink RX7 386 yX7_slotsWithRow ∈ tblG := gw5 210 (by decide +kernel) (by decide +kernel)
theorem wd593 : Cond.instanceMethod yX7_slotsWithRow ∈ tblG := gw5 212 (by decide +kernel) (by decide +kernel)
theorem wd594 : Cond.selects RX7 yX7_slotsWithRow yX7_slotsWithRow ∈ tblG := gw0 45 (by decide +kernel) (by decide +kernel)
theorem wd595 : Cond.code yX7_slotsWithRow cX7_slotsWithRow 3 (some .int) ∈ tblG := gw5 213 (by decide +kernel) (by decide +kernel)
theorem pl_X7_slotsWithRow : Plain yX7_slotsWithRow 0 := ⟨by decide, by decide, by decide +kernel⟩
theorem lk_X7_386 : LkV RX7 386 7 yX7_slotsWithRow cX7_slotsWithRow 3 (some .int) 0 := ⟨⟨TX7, 12, rfl⟩, wd592, wd593, wd594, wd207, wd595, pl_X7_slotsWithRow⟩
theorem wd596 : Cond.fieldLink RX7 62 RX7 "worths" "[I" ∈ tblG := gw2 33 (by decide +kernel) (by decide +kernel)
theorem fk_X7_62 : FLk RX7 62 7 9 (.array .int) true := ⟨RX7, TX7, 12, tyX7, clX7, by decide, rfl, rfl, rfl, Or.inl wd596⟩
theorem wd597 : Cond.methodLink RX7 313 yX7_learnWorths ∈ tblG := gw5 94 (by decide +kernel) (by decide +kernel)
theorem wd598 : Cond.instanceMethod yX7_learnWorths ∈ tblG := gw5 96 (by decide +kernel) (by decide +kernel)
theorem wd599 : Cond.selects RX7 yX7_learnWorths yX7_learnWorths ∈ tblG := gw0 40 (by decide +kernel) (by decide +kernel)
theorem wd600 : Cond.code yX7_learnWorths cX7_learnWorths 2 none ∈ tblG := gw5 97 (by decide +kernel) (by decide +kernel)
theorem pl_X7_learnWorths : Plain yX7_learnWorths 0 := ⟨by decide, by decide, by decide +kernel⟩
theorem lk_X7_313 : LkV RX7 313 7 yX7_learnWorths cX7_learnWorths 2 none 0 := ⟨⟨TX7, 12, rfl⟩, wd597, wd598, wd599, wd207, wd600, pl_X7_learnWorths⟩
theorem wd601 : Cond.fieldLink RX7 316 RX7 "FACTORIALS" "[I" ∈ tblG := gw5 98 (by decide +kernel) (by decide +kernel)
