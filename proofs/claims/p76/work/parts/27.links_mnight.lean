theorem dX8_asItIs_0 : decode cX8_asItIs 0 = .ok (.aload_n 0, 1) := by decide +kernel
theorem dX8_asItIs_1 : decode cX8_asItIs 1 = .ok (.aload_n 0, 1) := by decide +kernel
theorem dX8_asItIs_2 : decode cX8_asItIs 2 = .ok (.getfield 9, 3) := by decide +kernel
theorem dX8_asItIs_5 : decode cX8_asItIs 5 = .ok (.iconst 1, 1) := by decide +kernel
theorem dX8_asItIs_6 : decode cX8_asItIs 6 = .ok (.iaload, 1) := by decide +kernel
theorem dX8_asItIs_7 : decode cX8_asItIs 7 = .ok (.putfield 257, 3) := by decide +kernel
theorem dX8_asItIs_10 : decode cX8_asItIs 10 = .ok (.aload_n 0, 1) := by decide +kernel
theorem dX8_asItIs_11 : decode cX8_asItIs 11 = .ok (.iconst 0, 1) := by decide +kernel
theorem dX8_asItIs_12 : decode cX8_asItIs 12 = .ok (.putfield 260, 3) := by decide +kernel
theorem dX8_asItIs_15 : decode cX8_asItIs 15 = .ok (.aload_n 0, 1) := by decide +kernel
theorem dX8_asItIs_16 : decode cX8_asItIs 16 = .ok (.bipush 127, 2) := by decide +kernel
theorem dX8_asItIs_18 : decode cX8_asItIs 18 = .ok (.putfield 263, 3) := by decide +kernel
theorem dX8_asItIs_21 : decode cX8_asItIs 21 = .ok (.iconst 0, 1) := by decide +kernel
theorem dX8_asItIs_22 : decode cX8_asItIs 22 = .ok (.istore_n 1, 1) := by decide +kernel
theorem dX8_asItIs_23 : decode cX8_asItIs 23 = .ok (.iload_n 1, 1) := by decide +kernel
theorem dX8_asItIs_24 : decode cX8_asItIs 24 = .ok (.bipush 7, 2) := by decide +kernel
theorem dX8_asItIs_26 : decode cX8_asItIs 26 = .ok (.if_icmp .ge 20, 3) := by decide +kernel
theorem dX8_asItIs_29 : decode cX8_asItIs 29 = .ok (.aload_n 0, 1) := by decide +kernel
theorem dX8_asItIs_30 : decode cX8_asItIs 30 = .ok (.getfield 34, 3) := by decide +kernel
theorem dX8_asItIs_33 : decode cX8_asItIs 33 = .ok (.iload_n 1, 1) := by decide +kernel
theorem dX8_asItIs_34 : decode cX8_asItIs 34 = .ok (.aload_n 0, 1) := by decide +kernel
theorem dX8_asItIs_35 : decode cX8_asItIs 35 = .ok (.iload_n 1, 1) := by decide +kernel
theorem dX8_asItIs_36 : decode cX8_asItIs 36 = .ok (.invokevirtual 251, 3) := by decide +kernel
theorem dX8_asItIs_39 : decode cX8_asItIs 39 = .ok (.iastore, 1) := by decide +kernel
theorem dX8_asItIs_40 : decode cX8_asItIs 40 = .ok (.iinc 1 1, 3) := by decide +kernel
theorem dX8_asItIs_43 : decode cX8_asItIs 43 = .ok (.goto (-20), 3) := by decide +kernel
theorem dX8_asItIs_46 : decode cX8_asItIs 46 = .ok (.iconst 0, 1) := by decide +kernel
theorem dX8_asItIs_47 : decode cX8_asItIs 47 = .ok (.istore_n 1, 1) := by decide +kernel
theorem dX8_asItIs_48 : decode cX8_asItIs 48 = .ok (.iload_n 1, 1) := by decide +kernel
theorem dX8_asItIs_49 : decode cX8_asItIs 49 = .ok (.bipush 8, 2) := by decide +kernel
theorem dX8_asItIs_51 : decode cX8_asItIs 51 = .ok (.if_icmp .ge 28, 3) := by decide +kernel
theorem dX8_asItIs_54 : decode cX8_asItIs 54 = .ok (.aload_n 0, 1) := by decide +kernel
theorem dX8_asItIs_55 : decode cX8_asItIs 55 = .ok (.getfield 37, 3) := by decide +kernel
theorem dX8_asItIs_58 : decode cX8_asItIs 58 = .ok (.iload_n 1, 1) := by decide +kernel
theorem dX8_asItIs_59 : decode cX8_asItIs 59 = .ok (.aload_n 0, 1) := by decide +kernel
theorem dX8_asItIs_60 : decode cX8_asItIs 60 = .ok (.getfield 9, 3) := by decide +kernel
theorem dX8_asItIs_63 : decode cX8_asItIs 63 = .ok (.bipush 56, 2) := by decide +kernel
theorem dX8_asItIs_65 : decode cX8_asItIs 65 = .ok (.iconst 2, 1) := by decide +kernel
theorem dX8_asItIs_66 : decode cX8_asItIs 66 = .ok (.iload_n 1, 1) := by decide +kernel
theorem dX8_asItIs_67 : decode cX8_asItIs 67 = .ok (.imul, 1) := by decide +kernel
theorem dX8_asItIs_68 : decode cX8_asItIs 68 = .ok (.iadd, 1) := by decide +kernel
theorem dX8_asItIs_69 : decode cX8_asItIs 69 = .ok (.iconst 1, 1) := by decide +kernel
theorem dX8_asItIs_70 : decode cX8_asItIs 70 = .ok (.iadd, 1) := by decide +kernel
theorem dX8_asItIs_71 : decode cX8_asItIs 71 = .ok (.iaload, 1) := by decide +kernel
theorem dX8_asItIs_72 : decode cX8_asItIs 72 = .ok (.iastore, 1) := by decide +kernel
theorem dX8_asItIs_73 : decode cX8_asItIs 73 = .ok (.iinc 1 1, 3) := by decide +kernel
theorem dX8_asItIs_76 : decode cX8_asItIs 76 = .ok (.goto (-28), 3) := by decide +kernel
theorem dX8_asItIs_79 : decode cX8_asItIs 79 = .ok (.return_, 1) := by decide +kernel
theorem dX8_turn_0 : decode cX8_turn 0 = .ok (.aload_n 0, 1) := by decide +kernel
theorem dX8_turn_1 : decode cX8_turn 1 = .ok (.getfield 40, 3) := by decide +kernel
theorem dX8_turn_4 : decode cX8_turn 4 = .ok (.iload_n 1, 1) := by decide +kernel
theorem dX8_turn_5 : decode cX8_turn 5 = .ok (.aload_n 0, 1) := by decide +kernel
theorem dX8_turn_6 : decode cX8_turn 6 = .ok (.getfield 40, 3) := by decide +kernel
theorem dX8_turn_9 : decode cX8_turn 9 = .ok (.iload_n 1, 1) := by decide +kernel
theorem dX8_turn_10 : decode cX8_turn 10 = .ok (.iaload, 1) := by decide +kernel
theorem dX8_turn_11 : decode cX8_turn 11 = .ok (.iload_n 2, 1) := by decide +kernel
theorem dX8_turn_12 : decode cX8_turn 12 = .ok (.iadd, 1) := by decide +kernel
theorem dX8_turn_13 : decode cX8_turn 13 = .ok (.aload_n 0, 1) := by decide +kernel
theorem dX8_turn_14 : decode cX8_turn 14 = .ok (.iload_n 1, 1) := by decide +kernel
theorem dX8_turn_15 : decode cX8_turn 15 = .ok (.invokevirtual 245, 3) := by decide +kernel
theorem dX8_turn_18 : decode cX8_turn 18 = .ok (.iadd, 1) := by decide +kernel
theorem dX8_turn_19 : decode cX8_turn 19 = .ok (.aload_n 0, 1) := by decide +kernel
theorem dX8_turn_20 : decode cX8_turn 20 = .ok (.iload_n 1, 1) := by decide +kernel
theorem dX8_turn_21 : decode cX8_turn 21 = .ok (.invokevirtual 245, 3) := by decide +kernel
theorem dX8_turn_24 : decode cX8_turn 24 = .ok (.irem, 1) := by decide +kernel
theorem dX8_turn_25 : decode cX8_turn 25 = .ok (.iastore, 1) := by decide +kernel
theorem dX8_turn_26 : decode cX8_turn 26 = .ok (.return_, 1) := by decide +kernel
theorem dX8_sendBy_0 : decode cX8_sendBy 0 = .ok (.aload_n 0, 1) := by decide +kernel
theorem dX8_sendBy_1 : decode cX8_sendBy 1 = .ok (.getfield 263, 3) := by decide +kernel
theorem dX8_sendBy_4 : decode cX8_sendBy 4 = .ok (.iload_n 1, 1) := by decide +kernel
theorem dX8_sendBy_5 : decode cX8_sendBy 5 = .ok (.invokestatic 266, 3) := by decide +kernel
theorem dX8_sendBy_8 : decode cX8_sendBy 8 = .ok (.ifCond .ne 10, 3) := by decide +kernel
theorem dX8_sendBy_11 : decode cX8_sendBy 11 = .ok (.aload_n 0, 1) := by decide +kernel
theorem dX8_sendBy_12 : decode cX8_sendBy 12 = .ok (.getfield 40, 3) := by decide +kernel
theorem dX8_sendBy_15 : decode cX8_sendBy 15 = .ok (.iload_n 1, 1) := by decide +kernel
theorem dX8_sendBy_16 : decode cX8_sendBy 16 = .ok (.iaload, 1) := by decide +kernel
theorem dX8_sendBy_17 : decode cX8_sendBy 17 = .ok (.ireturn, 1) := by decide +kernel
theorem dX8_sendBy_18 : decode cX8_sendBy 18 = .ok (.aload_n 0, 1) := by decide +kernel
theorem dX8_sendBy_19 : decode cX8_sendBy 19 = .ok (.getfield 257, 3) := by decide +kernel
theorem dX8_sendBy_22 : decode cX8_sendBy 22 = .ok (.iconst 1, 1) := by decide +kernel
theorem dX8_sendBy_23 : decode cX8_sendBy 23 = .ok (.if_icmp .ne 9, 3) := by decide +kernel
theorem dX8_sendBy_26 : decode cX8_sendBy 26 = .ok (.aload_n 0, 1) := by decide +kernel
theorem dX8_sendBy_27 : decode cX8_sendBy 27 = .ok (.iload_n 1, 1) := by decide +kernel
theorem dX8_sendBy_28 : decode cX8_sendBy 28 = .ok (.iconst 1, 1) := by decide +kernel
theorem dX8_sendBy_29 : decode cX8_sendBy 29 = .ok (.invokevirtual 269, 3) := by decide +kernel
theorem dX8_sendBy_32 : decode cX8_sendBy 32 = .ok (.aload_n 0, 1) := by decide +kernel
theorem dX8_sendBy_33 : decode cX8_sendBy 33 = .ok (.getfield 40, 3) := by decide +kernel
theorem dX8_sendBy_36 : decode cX8_sendBy 36 = .ok (.iload_n 1, 1) := by decide +kernel
theorem dX8_sendBy_37 : decode cX8_sendBy 37 = .ok (.iaload, 1) := by decide +kernel
theorem dX8_sendBy_38 : decode cX8_sendBy 38 = .ok (.istore_n 2, 1) := by decide +kernel
theorem dX8_sendBy_39 : decode cX8_sendBy 39 = .ok (.aload_n 0, 1) := by decide +kernel
theorem dX8_sendBy_40 : decode cX8_sendBy 40 = .ok (.getfield 257, 3) := by decide +kernel
theorem dX8_sendBy_43 : decode cX8_sendBy 43 = .ok (.ifCond .eq 22, 3) := by decide +kernel
theorem dX8_sendBy_46 : decode cX8_sendBy 46 = .ok (.aload_n 0, 1) := by decide +kernel
theorem dX8_sendBy_47 : decode cX8_sendBy 47 = .ok (.getfield 257, 3) := by decide +kernel
theorem dX8_sendBy_50 : decode cX8_sendBy 50 = .ok (.iconst 3, 1) := by decide +kernel
theorem dX8_sendBy_51 : decode cX8_sendBy 51 = .ok (.if_icmp .ne 20, 3) := by decide +kernel
theorem dX8_sendBy_54 : decode cX8_sendBy 54 = .ok (.aload_n 0, 1) := by decide +kernel
theorem dX8_sendBy_55 : decode cX8_sendBy 55 = .ok (.iload_n 1, 1) := by decide +kernel
theorem dX8_sendBy_56 : decode cX8_sendBy 56 = .ok (.iload_n 2, 1) := by decide +kernel
theorem dX8_sendBy_57 : decode cX8_sendBy 57 = .ok (.invokevirtual 248, 3) := by decide +kernel
theorem dX8_sendBy_60 : decode cX8_sendBy 60 = .ok (.bipush 10, 2) := by decide +kernel
theorem dX8_sendBy_62 : decode cX8_sendBy 62 = .ok (.if_icmp .ge 9, 3) := by decide +kernel
theorem dX8_sendBy_65 : decode cX8_sendBy 65 = .ok (.aload_n 0, 1) := by decide +kernel
theorem dX8_sendBy_66 : decode cX8_sendBy 66 = .ok (.iload_n 1, 1) := by decide +kernel
theorem dX8_sendBy_67 : decode cX8_sendBy 67 = .ok (.iconst 1, 1) := by decide +kernel
theorem dX8_sendBy_68 : decode cX8_sendBy 68 = .ok (.invokevirtual 269, 3) := by decide +kernel
theorem dX8_sendBy_71 : decode cX8_sendBy 71 = .ok (.aload_n 0, 1) := by decide +kernel
theorem dX8_sendBy_72 : decode cX8_sendBy 72 = .ok (.getfield 257, 3) := by decide +kernel
theorem dX8_sendBy_75 : decode cX8_sendBy 75 = .ok (.iconst 2, 1) := by decide +kernel
theorem dX8_sendBy_76 : decode cX8_sendBy 76 = .ok (.if_icmp .ne 9, 3) := by decide +kernel
theorem dX8_sendBy_79 : decode cX8_sendBy 79 = .ok (.aload_n 0, 1) := by decide +kernel
theorem dX8_sendBy_80 : decode cX8_sendBy 80 = .ok (.iload_n 1, 1) := by decide +kernel
theorem dX8_sendBy_81 : decode cX8_sendBy 81 = .ok (.iconst (-1), 1) := by decide +kernel
theorem dX8_sendBy_82 : decode cX8_sendBy 82 = .ok (.invokevirtual 269, 3) := by decide +kernel
theorem dX8_sendBy_85 : decode cX8_sendBy 85 = .ok (.iload_n 2, 1) := by decide +kernel
theorem dX8_sendBy_86 : decode cX8_sendBy 86 = .ok (.ireturn, 1) := by decide +kernel
theorem dX8_isHeld_0 : decode cX8_isHeld 0 = .ok (.iconst 0, 1) := by decide +kernel
theorem dX8_isHeld_1 : decode cX8_isHeld 1 = .ok (.istore_n 3, 1) := by decide +kernel
theorem dX8_isHeld_2 : decode cX8_isHeld 2 = .ok (.iconst 0, 1) := by decide +kernel
theorem dX8_isHeld_3 : decode cX8_isHeld 3 = .ok (.istore 4, 2) := by decide +kernel
theorem dX8_isHeld_5 : decode cX8_isHeld 5 = .ok (.iload 4, 2) := by decide +kernel
theorem dX8_isHeld_7 : decode cX8_isHeld 7 = .ok (.aload_n 0, 1) := by decide +kernel
theorem dX8_isHeld_8 : decode cX8_isHeld 8 = .ok (.getfield 9, 3) := by decide +kernel
theorem dX8_isHeld_11 : decode cX8_isHeld 11 = .ok (.bipush 8, 2) := by decide +kernel
theorem dX8_isHeld_13 : decode cX8_isHeld 13 = .ok (.iaload, 1) := by decide +kernel
theorem dX8_isHeld_14 : decode cX8_isHeld 14 = .ok (.if_icmp .ge 42, 3) := by decide +kernel
theorem dX8_isHeld_17 : decode cX8_isHeld 17 = .ok (.iload_n 3, 1) := by decide +kernel
theorem dX8_isHeld_18 : decode cX8_isHeld 18 = .ok (.ifCond .ne 26, 3) := by decide +kernel
theorem dX8_isHeld_21 : decode cX8_isHeld 21 = .ok (.aload_n 0, 1) := by decide +kernel
theorem dX8_isHeld_22 : decode cX8_isHeld 22 = .ok (.getfield 9, 3) := by decide +kernel
theorem dX8_isHeld_25 : decode cX8_isHeld 25 = .ok (.bipush 72, 2) := by decide +kernel
theorem dX8_isHeld_27 : decode cX8_isHeld 27 = .ok (.iload 4, 2) := by decide +kernel
theorem dX8_isHeld_29 : decode cX8_isHeld 29 = .ok (.iadd, 1) := by decide +kernel
theorem dX8_isHeld_30 : decode cX8_isHeld 30 = .ok (.iaload, 1) := by decide +kernel
theorem dX8_isHeld_31 : decode cX8_isHeld 31 = .ok (.sipush 10000, 3) := by decide +kernel
theorem dX8_isHeld_34 : decode cX8_isHeld 34 = .ok (.bipush 100, 2) := by decide +kernel
theorem dX8_isHeld_36 : decode cX8_isHeld 36 = .ok (.iload_n 1, 1) := by decide +kernel
theorem dX8_isHeld_37 : decode cX8_isHeld 37 = .ok (.imul, 1) := by decide +kernel
theorem dX8_isHeld_38 : decode cX8_isHeld 38 = .ok (.iadd, 1) := by decide +kernel
theorem dX8_isHeld_39 : decode cX8_isHeld 39 = .ok (.iload_n 2, 1) := by decide +kernel
theorem dX8_isHeld_40 : decode cX8_isHeld 40 = .ok (.iadd, 1) := by decide +kernel
theorem dX8_isHeld_41 : decode cX8_isHeld 41 = .ok (.if_icmp .ne 7, 3) := by decide +kernel
theorem dX8_isHeld_44 : decode cX8_isHeld 44 = .ok (.iconst 1, 1) := by decide +kernel
theorem dX8_isHeld_45 : decode cX8_isHeld 45 = .ok (.goto 4, 3) := by decide +kernel
theorem dX8_isHeld_48 : decode cX8_isHeld 48 = .ok (.iconst 0, 1) := by decide +kernel
theorem dX8_isHeld_49 : decode cX8_isHeld 49 = .ok (.istore_n 3, 1) := by decide +kernel
theorem dX8_isHeld_50 : decode cX8_isHeld 50 = .ok (.iinc 4 1, 3) := by decide +kernel
theorem dX8_isHeld_53 : decode cX8_isHeld 53 = .ok (.goto (-48), 3) := by decide +kernel
theorem dX8_isHeld_56 : decode cX8_isHeld 56 = .ok (.iload_n 3, 1) := by decide +kernel
theorem dX8_isHeld_57 : decode cX8_isHeld 57 = .ok (.ireturn, 1) := by decide +kernel
theorem dX8_sendOne_0 : decode cX8_sendOne 0 = .ok (.aload_n 0, 1) := by decide +kernel
theorem dX8_sendOne_1 : decode cX8_sendOne 1 = .ok (.getfield 43, 3) := by decide +kernel
theorem dX8_sendOne_4 : decode cX8_sendOne 4 = .ok (.iload_n 1, 1) := by decide +kernel
theorem dX8_sendOne_5 : decode cX8_sendOne 5 = .ok (.iaload, 1) := by decide +kernel
theorem dX8_sendOne_6 : decode cX8_sendOne 6 = .ok (.istore_n 3, 1) := by decide +kernel
theorem dX8_sendOne_7 : decode cX8_sendOne 7 = .ok (.aload_n 0, 1) := by decide +kernel
theorem dX8_sendOne_8 : decode cX8_sendOne 8 = .ok (.iload_n 3, 1) := by decide +kernel
theorem dX8_sendOne_9 : decode cX8_sendOne 9 = .ok (.invokevirtual 273, 3) := by decide +kernel
theorem dX8_sendOne_12 : decode cX8_sendOne 12 = .ok (.istore 4, 2) := by decide +kernel
theorem dX8_sendOne_14 : decode cX8_sendOne 14 = .ok (.aload_n 0, 1) := by decide +kernel
theorem dX8_sendOne_15 : decode cX8_sendOne 15 = .ok (.iload_n 3, 1) := by decide +kernel
theorem dX8_sendOne_16 : decode cX8_sendOne 16 = .ok (.iload 4, 2) := by decide +kernel
theorem dX8_sendOne_18 : decode cX8_sendOne 18 = .ok (.invokevirtual 248, 3) := by decide +kernel
theorem dX8_sendOne_21 : decode cX8_sendOne 21 = .ok (.istore 5, 2) := by decide +kernel
theorem dX8_sendOne_23 : decode cX8_sendOne 23 = .ok (.aload_n 0, 1) := by decide +kernel
theorem dX8_sendOne_24 : decode cX8_sendOne 24 = .ok (.getfield 52, 3) := by decide +kernel
theorem dX8_sendOne_27 : decode cX8_sendOne 27 = .ok (.iload_n 2, 1) := by decide +kernel
theorem dX8_sendOne_28 : decode cX8_sendOne 28 = .ok (.dup2, 1) := by decide +kernel
theorem dX8_sendOne_29 : decode cX8_sendOne 29 = .ok (.iaload, 1) := by decide +kernel
theorem dX8_sendOne_30 : decode cX8_sendOne 30 = .ok (.iconst 1, 1) := by decide +kernel
theorem dX8_sendOne_31 : decode cX8_sendOne 31 = .ok (.iload_n 1, 1) := by decide +kernel
theorem dX8_sendOne_32 : decode cX8_sendOne 32 = .ok (.ishl, 1) := by decide +kernel
theorem dX8_sendOne_33 : decode cX8_sendOne 33 = .ok (.ior, 1) := by decide +kernel
theorem dX8_sendOne_34 : decode cX8_sendOne 34 = .ok (.iastore, 1) := by decide +kernel
theorem dX8_sendOne_35 : decode cX8_sendOne 35 = .ok (.aload_n 0, 1) := by decide +kernel
theorem dX8_sendOne_36 : decode cX8_sendOne 36 = .ok (.getfield 55, 3) := by decide +kernel
theorem dX8_sendOne_39 : decode cX8_sendOne 39 = .ok (.iconst 4, 1) := by decide +kernel
theorem dX8_sendOne_40 : decode cX8_sendOne 40 = .ok (.iload_n 3, 1) := by decide +kernel
theorem dX8_sendOne_41 : decode cX8_sendOne 41 = .ok (.imul, 1) := by decide +kernel
theorem dX8_sendOne_42 : decode cX8_sendOne 42 = .ok (.iload 4, 2) := by decide +kernel
theorem dX8_sendOne_44 : decode cX8_sendOne 44 = .ok (.iadd, 1) := by decide +kernel
theorem dX8_sendOne_45 : decode cX8_sendOne 45 = .ok (.dup2, 1) := by decide +kernel
theorem dX8_sendOne_46 : decode cX8_sendOne 46 = .ok (.iaload, 1) := by decide +kernel
theorem dX8_sendOne_47 : decode cX8_sendOne 47 = .ok (.iconst 1, 1) := by decide +kernel
theorem dX8_sendOne_48 : decode cX8_sendOne 48 = .ok (.iadd, 1) := by decide +kernel
theorem dX8_sendOne_49 : decode cX8_sendOne 49 = .ok (.iastore, 1) := by decide +kernel
theorem dX8_sendOne_50 : decode cX8_sendOne 50 = .ok (.aload_n 0, 1) := by decide +kernel
theorem dX8_sendOne_51 : decode cX8_sendOne 51 = .ok (.getfield 58, 3) := by decide +kernel
theorem dX8_sendOne_54 : decode cX8_sendOne 54 = .ok (.iload_n 1, 1) := by decide +kernel
theorem dX8_sendOne_55 : decode cX8_sendOne 55 = .ok (.dup2, 1) := by decide +kernel
theorem dX8_sendOne_56 : decode cX8_sendOne 56 = .ok (.iaload, 1) := by decide +kernel
theorem dX8_sendOne_57 : decode cX8_sendOne 57 = .ok (.iconst 1, 1) := by decide +kernel
theorem dX8_sendOne_58 : decode cX8_sendOne 58 = .ok (.iadd, 1) := by decide +kernel
theorem dX8_sendOne_59 : decode cX8_sendOne 59 = .ok (.iastore, 1) := by decide +kernel
theorem dX8_sendOne_60 : decode cX8_sendOne 60 = .ok (.iload 5, 2) := by decide +kernel
theorem dX8_sendOne_62 : decode cX8_sendOne 62 = .ok (.bipush 10, 2) := by decide +kernel
theorem dX8_sendOne_64 : decode cX8_sendOne 64 = .ok (.if_icmp .ge 14, 3) := by decide +kernel
theorem dX8_sendOne_67 : decode cX8_sendOne 67 = .ok (.aload_n 0, 1) := by decide +kernel
theorem dX8_sendOne_68 : decode cX8_sendOne 68 = .ok (.getfield 43, 3) := by decide +kernel
theorem dX8_sendOne_71 : decode cX8_sendOne 71 = .ok (.iload_n 1, 1) := by decide +kernel
theorem dX8_sendOne_72 : decode cX8_sendOne 72 = .ok (.iload 5, 2) := by decide +kernel
theorem dX8_sendOne_74 : decode cX8_sendOne 74 = .ok (.iastore, 1) := by decide +kernel
theorem dX8_sendOne_75 : decode cX8_sendOne 75 = .ok (.goto 68, 3) := by decide +kernel
theorem dX8_sendOne_78 : decode cX8_sendOne 78 = .ok (.aload_n 0, 1) := by decide +kernel
theorem dX8_sendOne_79 : decode cX8_sendOne 79 = .ok (.getfield 61, 3) := by decide +kernel
theorem dX8_sendOne_82 : decode cX8_sendOne 82 = .ok (.iload 5, 2) := by decide +kernel
theorem dX8_sendOne_84 : decode cX8_sendOne 84 = .ok (.bipush 10, 2) := by decide +kernel
theorem dX8_sendOne_86 : decode cX8_sendOne 86 = .ok (.isub, 1) := by decide +kernel
theorem dX8_sendOne_87 : decode cX8_sendOne 87 = .ok (.iaload, 1) := by decide +kernel
theorem dX8_sendOne_88 : decode cX8_sendOne 88 = .ok (.aload_n 0, 1) := by decide +kernel
theorem dX8_sendOne_89 : decode cX8_sendOne 89 = .ok (.getfield 9, 3) := by decide +kernel
theorem dX8_sendOne_92 : decode cX8_sendOne 92 = .ok (.bipush 10, 2) := by decide +kernel
theorem dX8_sendOne_94 : decode cX8_sendOne 94 = .ok (.iload 5, 2) := by decide +kernel
theorem dX8_sendOne_96 : decode cX8_sendOne 96 = .ok (.iadd, 1) := by decide +kernel
theorem dX8_sendOne_97 : decode cX8_sendOne 97 = .ok (.bipush 10, 2) := by decide +kernel
theorem dX8_sendOne_99 : decode cX8_sendOne 99 = .ok (.isub, 1) := by decide +kernel
theorem dX8_sendOne_100 : decode cX8_sendOne 100 = .ok (.iaload, 1) := by decide +kernel
theorem dX8_sendOne_101 : decode cX8_sendOne 101 = .ok (.if_icmp .ge 28, 3) := by decide +kernel
theorem dX8_sendOne_104 : decode cX8_sendOne 104 = .ok (.aload_n 0, 1) := by decide +kernel
theorem dX8_sendOne_105 : decode cX8_sendOne 105 = .ok (.getfield 43, 3) := by decide +kernel
theorem dX8_sendOne_108 : decode cX8_sendOne 108 = .ok (.iload_n 1, 1) := by decide +kernel
theorem dX8_sendOne_109 : decode cX8_sendOne 109 = .ok (.iload 5, 2) := by decide +kernel
theorem dX8_sendOne_111 : decode cX8_sendOne 111 = .ok (.iastore, 1) := by decide +kernel
theorem dX8_sendOne_112 : decode cX8_sendOne 112 = .ok (.aload_n 0, 1) := by decide +kernel
theorem dX8_sendOne_113 : decode cX8_sendOne 113 = .ok (.getfield 61, 3) := by decide +kernel
theorem dX8_sendOne_116 : decode cX8_sendOne 116 = .ok (.iload 5, 2) := by decide +kernel
theorem dX8_sendOne_118 : decode cX8_sendOne 118 = .ok (.bipush 10, 2) := by decide +kernel
theorem dX8_sendOne_120 : decode cX8_sendOne 120 = .ok (.isub, 1) := by decide +kernel
theorem dX8_sendOne_121 : decode cX8_sendOne 121 = .ok (.dup2, 1) := by decide +kernel
theorem dX8_sendOne_122 : decode cX8_sendOne 122 = .ok (.iaload, 1) := by decide +kernel
theorem dX8_sendOne_123 : decode cX8_sendOne 123 = .ok (.iconst 1, 1) := by decide +kernel
theorem dX8_sendOne_124 : decode cX8_sendOne 124 = .ok (.iadd, 1) := by decide +kernel
theorem dX8_sendOne_125 : decode cX8_sendOne 125 = .ok (.iastore, 1) := by decide +kernel
theorem dX8_sendOne_126 : decode cX8_sendOne 126 = .ok (.goto 17, 3) := by decide +kernel
theorem dX8_sendOne_129 : decode cX8_sendOne 129 = .ok (.aload_n 0, 1) := by decide +kernel
theorem dX8_sendOne_130 : decode cX8_sendOne 130 = .ok (.getfield 64, 3) := by decide +kernel
theorem dX8_sendOne_133 : decode cX8_sendOne 133 = .ok (.iload 5, 2) := by decide +kernel
theorem dX8_sendOne_135 : decode cX8_sendOne 135 = .ok (.bipush 10, 2) := by decide +kernel
theorem dX8_sendOne_137 : decode cX8_sendOne 137 = .ok (.isub, 1) := by decide +kernel
theorem dX8_sendOne_138 : decode cX8_sendOne 138 = .ok (.dup2, 1) := by decide +kernel
theorem dX8_sendOne_139 : decode cX8_sendOne 139 = .ok (.iaload, 1) := by decide +kernel
theorem dX8_sendOne_140 : decode cX8_sendOne 140 = .ok (.iconst 1, 1) := by decide +kernel
theorem dX8_sendOne_141 : decode cX8_sendOne 141 = .ok (.iadd, 1) := by decide +kernel
theorem dX8_sendOne_142 : decode cX8_sendOne 142 = .ok (.iastore, 1) := by decide +kernel
theorem dX8_sendOne_143 : decode cX8_sendOne 143 = .ok (.return_, 1) := by decide +kernel
theorem dX8_goHour_0 : decode cX8_goHour 0 = .ok (.iconst 0, 1) := by decide +kernel
theorem dX8_goHour_1 : decode cX8_goHour 1 = .ok (.istore_n 2, 1) := by decide +kernel
theorem dX8_goHour_2 : decode cX8_goHour 2 = .ok (.iload_n 2, 1) := by decide +kernel
theorem dX8_goHour_3 : decode cX8_goHour 3 = .ok (.aload_n 0, 1) := by decide +kernel
theorem dX8_goHour_4 : decode cX8_goHour 4 = .ok (.getfield 9, 3) := by decide +kernel
theorem dX8_goHour_7 : decode cX8_goHour 7 = .ok (.bipush 8, 2) := by decide +kernel
theorem dX8_goHour_9 : decode cX8_goHour 9 = .ok (.iaload, 1) := by decide +kernel
theorem dX8_goHour_10 : decode cX8_goHour 10 = .ok (.if_icmp .ge 54, 3) := by decide +kernel
theorem dX8_goHour_13 : decode cX8_goHour 13 = .ok (.aload_n 0, 1) := by decide +kernel
theorem dX8_goHour_14 : decode cX8_goHour 14 = .ok (.getfield 9, 3) := by decide +kernel
theorem dX8_goHour_17 : decode cX8_goHour 17 = .ok (.bipush 72, 2) := by decide +kernel
theorem dX8_goHour_19 : decode cX8_goHour 19 = .ok (.iload_n 2, 1) := by decide +kernel
theorem dX8_goHour_20 : decode cX8_goHour 20 = .ok (.iadd, 1) := by decide +kernel
theorem dX8_goHour_21 : decode cX8_goHour 21 = .ok (.iaload, 1) := by decide +kernel
theorem dX8_goHour_22 : decode cX8_goHour 22 = .ok (.istore_n 3, 1) := by decide +kernel
theorem dX8_goHour_23 : decode cX8_goHour 23 = .ok (.iload_n 3, 1) := by decide +kernel
theorem dX8_goHour_24 : decode cX8_goHour 24 = .ok (.sipush 10000, 3) := by decide +kernel
theorem dX8_goHour_27 : decode cX8_goHour 27 = .ok (.if_icmp .ge 31, 3) := by decide +kernel
theorem dX8_goHour_30 : decode cX8_goHour 30 = .ok (.iload_n 3, 1) := by decide +kernel
theorem dX8_goHour_31 : decode cX8_goHour 31 = .ok (.bipush 100, 2) := by decide +kernel
theorem dX8_goHour_33 : decode cX8_goHour 33 = .ok (.irem, 1) := by decide +kernel
theorem dX8_goHour_34 : decode cX8_goHour 34 = .ok (.iload_n 1, 1) := by decide +kernel
theorem dX8_goHour_35 : decode cX8_goHour 35 = .ok (.if_icmp .ne 23, 3) := by decide +kernel
theorem dX8_goHour_38 : decode cX8_goHour 38 = .ok (.aload_n 0, 1) := by decide +kernel
theorem dX8_goHour_39 : decode cX8_goHour 39 = .ok (.iload_n 3, 1) := by decide +kernel
theorem dX8_goHour_40 : decode cX8_goHour 40 = .ok (.bipush 100, 2) := by decide +kernel
theorem dX8_goHour_42 : decode cX8_goHour 42 = .ok (.idiv, 1) := by decide +kernel
theorem dX8_goHour_43 : decode cX8_goHour 43 = .ok (.invokevirtual 245, 3) := by decide +kernel
theorem dX8_goHour_46 : decode cX8_goHour 46 = .ok (.ifCond .le 12, 3) := by decide +kernel
theorem dX8_goHour_49 : decode cX8_goHour 49 = .ok (.aload_n 0, 1) := by decide +kernel
theorem dX8_goHour_50 : decode cX8_goHour 50 = .ok (.iload_n 3, 1) := by decide +kernel
theorem dX8_goHour_51 : decode cX8_goHour 51 = .ok (.bipush 100, 2) := by decide +kernel
theorem dX8_goHour_53 : decode cX8_goHour 53 = .ok (.idiv, 1) := by decide +kernel
theorem dX8_goHour_54 : decode cX8_goHour 54 = .ok (.iconst 1, 1) := by decide +kernel
theorem dX8_goHour_55 : decode cX8_goHour 55 = .ok (.invokevirtual 269, 3) := by decide +kernel
theorem dX8_goHour_58 : decode cX8_goHour 58 = .ok (.iinc 2 1, 3) := by decide +kernel
theorem dX8_goHour_61 : decode cX8_goHour 61 = .ok (.goto (-59), 3) := by decide +kernel
theorem dX8_goHour_64 : decode cX8_goHour 64 = .ok (.iconst 0, 1) := by decide +kernel
theorem dX8_goHour_65 : decode cX8_goHour 65 = .ok (.istore_n 2, 1) := by decide +kernel
theorem dX8_goHour_66 : decode cX8_goHour 66 = .ok (.iload_n 2, 1) := by decide +kernel
theorem dX8_goHour_67 : decode cX8_goHour 67 = .ok (.aload_n 0, 1) := by decide +kernel
theorem dX8_goHour_68 : decode cX8_goHour 68 = .ok (.invokevirtual 109, 3) := by decide +kernel
theorem dX8_goHour_71 : decode cX8_goHour 71 = .ok (.if_icmp .ge 64, 3) := by decide +kernel
theorem dX8_goHour_74 : decode cX8_goHour 74 = .ok (.aload_n 0, 1) := by decide +kernel
theorem dX8_goHour_75 : decode cX8_goHour 75 = .ok (.getfield 260, 3) := by decide +kernel
theorem dX8_goHour_78 : decode cX8_goHour 78 = .ok (.iload_n 1, 1) := by decide +kernel
theorem dX8_goHour_79 : decode cX8_goHour 79 = .ok (.invokestatic 266, 3) := by decide +kernel
theorem dX8_goHour_82 : decode cX8_goHour 82 = .ok (.ifCond .ne 53, 3) := by decide +kernel
theorem dX8_goHour_85 : decode cX8_goHour 85 = .ok (.aload_n 0, 1) := by decide +kernel
theorem dX8_goHour_86 : decode cX8_goHour 86 = .ok (.getfield 43, 3) := by decide +kernel
theorem dX8_goHour_89 : decode cX8_goHour 89 = .ok (.iload_n 2, 1) := by decide +kernel
theorem dX8_goHour_90 : decode cX8_goHour 90 = .ok (.iaload, 1) := by decide +kernel
theorem dX8_goHour_91 : decode cX8_goHour 91 = .ok (.istore_n 3, 1) := by decide +kernel
theorem dX8_goHour_92 : decode cX8_goHour 92 = .ok (.iload_n 3, 1) := by decide +kernel
theorem dX8_goHour_93 : decode cX8_goHour 93 = .ok (.iconst (-1), 1) := by decide +kernel
theorem dX8_goHour_94 : decode cX8_goHour 94 = .ok (.if_icmp .eq 35, 3) := by decide +kernel
theorem dX8_goHour_97 : decode cX8_goHour 97 = .ok (.iload_n 3, 1) := by decide +kernel
theorem dX8_goHour_98 : decode cX8_goHour 98 = .ok (.bipush 10, 2) := by decide +kernel
theorem dX8_goHour_100 : decode cX8_goHour 100 = .ok (.if_icmp .ge 29, 3) := by decide +kernel
theorem dX8_goHour_103 : decode cX8_goHour 103 = .ok (.aload_n 0, 1) := by decide +kernel
theorem dX8_goHour_104 : decode cX8_goHour 104 = .ok (.iload_n 3, 1) := by decide +kernel
theorem dX8_goHour_105 : decode cX8_goHour 105 = .ok (.invokevirtual 245, 3) := by decide +kernel
theorem dX8_goHour_108 : decode cX8_goHour 108 = .ok (.ifCond .eq 21, 3) := by decide +kernel
theorem dX8_goHour_111 : decode cX8_goHour 111 = .ok (.aload_n 0, 1) := by decide +kernel
theorem dX8_goHour_112 : decode cX8_goHour 112 = .ok (.iload_n 2, 1) := by decide +kernel
theorem dX8_goHour_113 : decode cX8_goHour 113 = .ok (.iload_n 1, 1) := by decide +kernel
theorem dX8_goHour_114 : decode cX8_goHour 114 = .ok (.invokevirtual 276, 3) := by decide +kernel
theorem dX8_goHour_117 : decode cX8_goHour 117 = .ok (.ifCond .eq 6, 3) := by decide +kernel
theorem dX8_goHour_120 : decode cX8_goHour 120 = .ok (.goto 9, 3) := by decide +kernel
theorem dX8_goHour_123 : decode cX8_goHour 123 = .ok (.aload_n 0, 1) := by decide +kernel
theorem dX8_goHour_124 : decode cX8_goHour 124 = .ok (.iload_n 2, 1) := by decide +kernel
theorem dX8_goHour_125 : decode cX8_goHour 125 = .ok (.iload_n 1, 1) := by decide +kernel
theorem dX8_goHour_126 : decode cX8_goHour 126 = .ok (.invokevirtual 280, 3) := by decide +kernel
theorem dX8_goHour_129 : decode cX8_goHour 129 = .ok (.iinc 2 1, 3) := by decide +kernel
theorem dX8_goHour_132 : decode cX8_goHour 132 = .ok (.goto (-66), 3) := by decide +kernel
theorem dX8_goHour_135 : decode cX8_goHour 135 = .ok (.return_, 1) := by decide +kernel
theorem dX8_goAll_0 : decode cX8_goAll 0 = .ok (.iconst 0, 1) := by decide +kernel
theorem dX8_goAll_1 : decode cX8_goAll 1 = .ok (.istore_n 1, 1) := by decide +kernel
theorem dX8_goAll_2 : decode cX8_goAll 2 = .ok (.iload_n 1, 1) := by decide +kernel
theorem dX8_goAll_3 : decode cX8_goAll 3 = .ok (.bipush 7, 2) := by decide +kernel
theorem dX8_goAll_5 : decode cX8_goAll 5 = .ok (.if_icmp .ge 21, 3) := by decide +kernel
theorem dX8_goAll_8 : decode cX8_goAll 8 = .ok (.aload_n 0, 1) := by decide +kernel
theorem dX8_goAll_9 : decode cX8_goAll 9 = .ok (.getfield 40, 3) := by decide +kernel
theorem dX8_goAll_12 : decode cX8_goAll 12 = .ok (.iload_n 1, 1) := by decide +kernel
theorem dX8_goAll_13 : decode cX8_goAll 13 = .ok (.aload_n 0, 1) := by decide +kernel
theorem dX8_goAll_14 : decode cX8_goAll 14 = .ok (.getfield 34, 3) := by decide +kernel
theorem dX8_goAll_17 : decode cX8_goAll 17 = .ok (.iload_n 1, 1) := by decide +kernel
theorem dX8_goAll_18 : decode cX8_goAll 18 = .ok (.iaload, 1) := by decide +kernel
theorem dX8_goAll_19 : decode cX8_goAll 19 = .ok (.iastore, 1) := by decide +kernel
theorem dX8_goAll_20 : decode cX8_goAll 20 = .ok (.iinc 1 1, 3) := by decide +kernel
theorem dX8_goAll_23 : decode cX8_goAll 23 = .ok (.goto (-21), 3) := by decide +kernel
theorem dX8_goAll_26 : decode cX8_goAll 26 = .ok (.iconst 0, 1) := by decide +kernel
theorem dX8_goAll_27 : decode cX8_goAll 27 = .ok (.istore_n 1, 1) := by decide +kernel
theorem dX8_goAll_28 : decode cX8_goAll 28 = .ok (.iload_n 1, 1) := by decide +kernel
theorem dX8_goAll_29 : decode cX8_goAll 29 = .ok (.bipush 28, 2) := by decide +kernel
theorem dX8_goAll_31 : decode cX8_goAll 31 = .ok (.if_icmp .ge 16, 3) := by decide +kernel
theorem dX8_goAll_34 : decode cX8_goAll 34 = .ok (.aload_n 0, 1) := by decide +kernel
theorem dX8_goAll_35 : decode cX8_goAll 35 = .ok (.getfield 55, 3) := by decide +kernel
theorem dX8_goAll_38 : decode cX8_goAll 38 = .ok (.iload_n 1, 1) := by decide +kernel
theorem dX8_goAll_39 : decode cX8_goAll 39 = .ok (.iconst 0, 1) := by decide +kernel
theorem dX8_goAll_40 : decode cX8_goAll 40 = .ok (.iastore, 1) := by decide +kernel
theorem dX8_goAll_41 : decode cX8_goAll 41 = .ok (.iinc 1 1, 3) := by decide +kernel
theorem dX8_goAll_44 : decode cX8_goAll 44 = .ok (.goto (-16), 3) := by decide +kernel
theorem dX8_goAll_47 : decode cX8_goAll 47 = .ok (.iconst 0, 1) := by decide +kernel
theorem dX8_goAll_48 : decode cX8_goAll 48 = .ok (.istore_n 1, 1) := by decide +kernel
theorem dX8_goAll_49 : decode cX8_goAll 49 = .ok (.iload_n 1, 1) := by decide +kernel
theorem dX8_goAll_50 : decode cX8_goAll 50 = .ok (.iconst 4, 1) := by decide +kernel
theorem dX8_goAll_51 : decode cX8_goAll 51 = .ok (.if_icmp .ge 23, 3) := by decide +kernel
theorem dX8_goAll_54 : decode cX8_goAll 54 = .ok (.aload_n 0, 1) := by decide +kernel
theorem dX8_goAll_55 : decode cX8_goAll 55 = .ok (.getfield 61, 3) := by decide +kernel
theorem dX8_goAll_58 : decode cX8_goAll 58 = .ok (.iload_n 1, 1) := by decide +kernel
theorem dX8_goAll_59 : decode cX8_goAll 59 = .ok (.iconst 0, 1) := by decide +kernel
theorem dX8_goAll_60 : decode cX8_goAll 60 = .ok (.iastore, 1) := by decide +kernel
theorem dX8_goAll_61 : decode cX8_goAll 61 = .ok (.aload_n 0, 1) := by decide +kernel
theorem dX8_goAll_62 : decode cX8_goAll 62 = .ok (.getfield 64, 3) := by decide +kernel
theorem dX8_goAll_65 : decode cX8_goAll 65 = .ok (.iload_n 1, 1) := by decide +kernel
theorem dX8_goAll_66 : decode cX8_goAll 66 = .ok (.iconst 0, 1) := by decide +kernel
theorem dX8_goAll_67 : decode cX8_goAll 67 = .ok (.iastore, 1) := by decide +kernel
theorem dX8_goAll_68 : decode cX8_goAll 68 = .ok (.iinc 1 1, 3) := by decide +kernel
theorem dX8_goAll_71 : decode cX8_goAll 71 = .ok (.goto (-22), 3) := by decide +kernel
theorem dX8_goAll_74 : decode cX8_goAll 74 = .ok (.iconst 0, 1) := by decide +kernel
theorem dX8_goAll_75 : decode cX8_goAll 75 = .ok (.istore_n 1, 1) := by decide +kernel
theorem dX8_goAll_76 : decode cX8_goAll 76 = .ok (.iload_n 1, 1) := by decide +kernel
theorem dX8_goAll_77 : decode cX8_goAll 77 = .ok (.bipush 8, 2) := by decide +kernel
theorem dX8_goAll_79 : decode cX8_goAll 79 = .ok (.if_icmp .ge 23, 3) := by decide +kernel
theorem dX8_goAll_82 : decode cX8_goAll 82 = .ok (.aload_n 0, 1) := by decide +kernel
theorem dX8_goAll_83 : decode cX8_goAll 83 = .ok (.getfield 43, 3) := by decide +kernel
theorem dX8_goAll_86 : decode cX8_goAll 86 = .ok (.iload_n 1, 1) := by decide +kernel
theorem dX8_goAll_87 : decode cX8_goAll 87 = .ok (.iconst (-1), 1) := by decide +kernel
theorem dX8_goAll_88 : decode cX8_goAll 88 = .ok (.iastore, 1) := by decide +kernel
theorem dX8_goAll_89 : decode cX8_goAll 89 = .ok (.aload_n 0, 1) := by decide +kernel
theorem dX8_goAll_90 : decode cX8_goAll 90 = .ok (.getfield 58, 3) := by decide +kernel
theorem dX8_goAll_93 : decode cX8_goAll 93 = .ok (.iload_n 1, 1) := by decide +kernel
theorem dX8_goAll_94 : decode cX8_goAll 94 = .ok (.iconst 0, 1) := by decide +kernel
theorem dX8_goAll_95 : decode cX8_goAll 95 = .ok (.iastore, 1) := by decide +kernel
theorem dX8_goAll_96 : decode cX8_goAll 96 = .ok (.iinc 1 1, 3) := by decide +kernel
theorem dX8_goAll_99 : decode cX8_goAll 99 = .ok (.goto (-23), 3) := by decide +kernel
theorem dX8_goAll_102 : decode cX8_goAll 102 = .ok (.iconst 0, 1) := by decide +kernel
theorem dX8_goAll_103 : decode cX8_goAll 103 = .ok (.istore_n 1, 1) := by decide +kernel
theorem dX8_goAll_104 : decode cX8_goAll 104 = .ok (.iload_n 1, 1) := by decide +kernel
theorem dX8_goAll_105 : decode cX8_goAll 105 = .ok (.aload_n 0, 1) := by decide +kernel
theorem dX8_goAll_106 : decode cX8_goAll 106 = .ok (.invokevirtual 106, 3) := by decide +kernel
theorem dX8_goAll_109 : decode cX8_goAll 109 = .ok (.if_icmp .gt 121, 3) := by decide +kernel
theorem dX8_goAll_112 : decode cX8_goAll 112 = .ok (.iconst 0, 1) := by decide +kernel
theorem dX8_goAll_113 : decode cX8_goAll 113 = .ok (.istore_n 2, 1) := by decide +kernel
theorem dX8_goAll_114 : decode cX8_goAll 114 = .ok (.iload_n 2, 1) := by decide +kernel
theorem dX8_goAll_115 : decode cX8_goAll 115 = .ok (.aload_n 0, 1) := by decide +kernel
theorem dX8_goAll_116 : decode cX8_goAll 116 = .ok (.invokevirtual 109, 3) := by decide +kernel
theorem dX8_goAll_119 : decode cX8_goAll 119 = .ok (.if_icmp .ge 53, 3) := by decide +kernel
theorem dX8_goAll_122 : decode cX8_goAll 122 = .ok (.aload_n 0, 1) := by decide +kernel
theorem dX8_goAll_123 : decode cX8_goAll 123 = .ok (.getfield 37, 3) := by decide +kernel
theorem dX8_goAll_126 : decode cX8_goAll 126 = .ok (.iload_n 2, 1) := by decide +kernel
theorem dX8_goAll_127 : decode cX8_goAll 127 = .ok (.iaload, 1) := by decide +kernel
theorem dX8_goAll_128 : decode cX8_goAll 128 = .ok (.iload_n 1, 1) := by decide +kernel
theorem dX8_goAll_129 : decode cX8_goAll 129 = .ok (.if_icmp .ne 20, 3) := by decide +kernel
theorem dX8_goAll_132 : decode cX8_goAll 132 = .ok (.aload_n 0, 1) := by decide +kernel
theorem dX8_goAll_133 : decode cX8_goAll 133 = .ok (.getfield 43, 3) := by decide +kernel
theorem dX8_goAll_136 : decode cX8_goAll 136 = .ok (.iload_n 2, 1) := by decide +kernel
theorem dX8_goAll_137 : decode cX8_goAll 137 = .ok (.aload_n 0, 1) := by decide +kernel
theorem dX8_goAll_138 : decode cX8_goAll 138 = .ok (.getfield 9, 3) := by decide +kernel
theorem dX8_goAll_141 : decode cX8_goAll 141 = .ok (.bipush 56, 2) := by decide +kernel
theorem dX8_goAll_143 : decode cX8_goAll 143 = .ok (.iconst 2, 1) := by decide +kernel
theorem dX8_goAll_144 : decode cX8_goAll 144 = .ok (.iload_n 2, 1) := by decide +kernel
theorem dX8_goAll_145 : decode cX8_goAll 145 = .ok (.imul, 1) := by decide +kernel
theorem dX8_goAll_146 : decode cX8_goAll 146 = .ok (.iadd, 1) := by decide +kernel
theorem dX8_goAll_147 : decode cX8_goAll 147 = .ok (.iaload, 1) := by decide +kernel
theorem dX8_goAll_148 : decode cX8_goAll 148 = .ok (.iastore, 1) := by decide +kernel
theorem dX8_goAll_149 : decode cX8_goAll 149 = .ok (.aload_n 0, 1) := by decide +kernel
theorem dX8_goAll_150 : decode cX8_goAll 150 = .ok (.getfield 46, 3) := by decide +kernel
theorem dX8_goAll_153 : decode cX8_goAll 153 = .ok (.bipush 8, 2) := by decide +kernel
theorem dX8_goAll_155 : decode cX8_goAll 155 = .ok (.iload_n 1, 1) := by decide +kernel
theorem dX8_goAll_156 : decode cX8_goAll 156 = .ok (.imul, 1) := by decide +kernel
theorem dX8_goAll_157 : decode cX8_goAll 157 = .ok (.iload_n 2, 1) := by decide +kernel
theorem dX8_goAll_158 : decode cX8_goAll 158 = .ok (.iadd, 1) := by decide +kernel
theorem dX8_goAll_159 : decode cX8_goAll 159 = .ok (.aload_n 0, 1) := by decide +kernel
theorem dX8_goAll_160 : decode cX8_goAll 160 = .ok (.getfield 43, 3) := by decide +kernel
theorem dX8_goAll_163 : decode cX8_goAll 163 = .ok (.iload_n 2, 1) := by decide +kernel
theorem dX8_goAll_164 : decode cX8_goAll 164 = .ok (.iaload, 1) := by decide +kernel
theorem dX8_goAll_165 : decode cX8_goAll 165 = .ok (.iastore, 1) := by decide +kernel
theorem dX8_goAll_166 : decode cX8_goAll 166 = .ok (.iinc 2 1, 3) := by decide +kernel
theorem dX8_goAll_169 : decode cX8_goAll 169 = .ok (.goto (-55), 3) := by decide +kernel
theorem dX8_goAll_172 : decode cX8_goAll 172 = .ok (.iconst 0, 1) := by decide +kernel
theorem dX8_goAll_173 : decode cX8_goAll 173 = .ok (.istore_n 2, 1) := by decide +kernel
theorem dX8_goAll_174 : decode cX8_goAll 174 = .ok (.iload_n 2, 1) := by decide +kernel
theorem dX8_goAll_175 : decode cX8_goAll 175 = .ok (.bipush 7, 2) := by decide +kernel
theorem dX8_goAll_177 : decode cX8_goAll 177 = .ok (.if_icmp .ge 26, 3) := by decide +kernel
theorem dX8_goAll_180 : decode cX8_goAll 180 = .ok (.aload_n 0, 1) := by decide +kernel
theorem dX8_goAll_181 : decode cX8_goAll 181 = .ok (.getfield 49, 3) := by decide +kernel
theorem dX8_goAll_184 : decode cX8_goAll 184 = .ok (.bipush 7, 2) := by decide +kernel
theorem dX8_goAll_186 : decode cX8_goAll 186 = .ok (.iload_n 1, 1) := by decide +kernel
theorem dX8_goAll_187 : decode cX8_goAll 187 = .ok (.imul, 1) := by decide +kernel
theorem dX8_goAll_188 : decode cX8_goAll 188 = .ok (.iload_n 2, 1) := by decide +kernel
theorem dX8_goAll_189 : decode cX8_goAll 189 = .ok (.iadd, 1) := by decide +kernel
theorem dX8_goAll_190 : decode cX8_goAll 190 = .ok (.aload_n 0, 1) := by decide +kernel
theorem dX8_goAll_191 : decode cX8_goAll 191 = .ok (.getfield 40, 3) := by decide +kernel
theorem dX8_goAll_194 : decode cX8_goAll 194 = .ok (.iload_n 2, 1) := by decide +kernel
theorem dX8_goAll_195 : decode cX8_goAll 195 = .ok (.iaload, 1) := by decide +kernel
theorem dX8_goAll_196 : decode cX8_goAll 196 = .ok (.iastore, 1) := by decide +kernel
theorem dX8_goAll_197 : decode cX8_goAll 197 = .ok (.iinc 2 1, 3) := by decide +kernel
theorem dX8_goAll_200 : decode cX8_goAll 200 = .ok (.goto (-26), 3) := by decide +kernel
theorem dX8_goAll_203 : decode cX8_goAll 203 = .ok (.iload_n 1, 1) := by decide +kernel
theorem dX8_goAll_204 : decode cX8_goAll 204 = .ok (.aload_n 0, 1) := by decide +kernel
theorem dX8_goAll_205 : decode cX8_goAll 205 = .ok (.invokevirtual 106, 3) := by decide +kernel
theorem dX8_goAll_208 : decode cX8_goAll 208 = .ok (.if_icmp .ne 4, 3) := by decide +kernel
theorem dX8_goAll_211 : decode cX8_goAll 211 = .ok (.return_, 1) := by decide +kernel
theorem dX8_goAll_212 : decode cX8_goAll 212 = .ok (.aload_n 0, 1) := by decide +kernel
theorem dX8_goAll_213 : decode cX8_goAll 213 = .ok (.getfield 52, 3) := by decide +kernel
theorem dX8_goAll_216 : decode cX8_goAll 216 = .ok (.iload_n 1, 1) := by decide +kernel
theorem dX8_goAll_217 : decode cX8_goAll 217 = .ok (.iconst 0, 1) := by decide +kernel
theorem dX8_goAll_218 : decode cX8_goAll 218 = .ok (.iastore, 1) := by decide +kernel
theorem dX8_goAll_219 : decode cX8_goAll 219 = .ok (.aload_n 0, 1) := by decide +kernel
theorem dX8_goAll_220 : decode cX8_goAll 220 = .ok (.iload_n 1, 1) := by decide +kernel
theorem dX8_goAll_221 : decode cX8_goAll 221 = .ok (.invokevirtual 283, 3) := by decide +kernel
theorem dX8_goAll_224 : decode cX8_goAll 224 = .ok (.iinc 1 1, 3) := by decide +kernel
theorem dX8_goAll_227 : decode cX8_goAll 227 = .ok (.goto (-123), 3) := by decide +kernel
theorem dX8_goAll_230 : decode cX8_goAll 230 = .ok (.return_, 1) := by decide +kernel
theorem wd675 : Cond.fieldLink RX8 257 RX8 "lawNow" "I" ∈ tblG := gw6 51 (by decide +kernel) (by decide +kernel)
theorem fk_X8_257 : FLk RX8 257 8 17 (.int) false := ⟨RX8, TX8, 41, tyX8, clX8, by decide, rfl, rfl, rfl, Or.inl wd675⟩
theorem wd676 : Cond.fieldLink RX8 260 RX8 "fogSet" "I" ∈ tblG := gw6 52 (by decide +kernel) (by decide +kernel)
theorem fk_X8_260 : FLk RX8 260 8 18 (.int) false := ⟨RX8, TX8, 41, tyX8, clX8, by decide, rfl, rfl, rfl, Or.inl wd676⟩
theorem wd677 : Cond.fieldLink RX8 263 RX8 "turnSet" "I" ∈ tblG := gw6 53 (by decide +kernel) (by decide +kernel)
theorem fk_X8_263 : FLk RX8 263 8 19 (.int) false := ⟨RX8, TX8, 41, tyX8, clX8, by decide, rfl, rfl, rfl, Or.inl wd677⟩
theorem wd678 : Cond.fieldLink RX8 37 RX8 "hourNow" "[I" ∈ tblG := gw6 50 (by decide +kernel) (by decide +kernel)
theorem fk_X8_37 : FLk RX8 37 8 16 (.array .int) true := ⟨RX8, TX8, 41, tyX8, clX8, by decide, rfl, rfl, rfl, Or.inl wd678⟩
theorem wd679 : Cond.fieldLink RX8 34 RX8 "armFirst" "[I" ∈ tblG := gw6 49 (by decide +kernel) (by decide +kernel)
theorem fk_X8_34 : FLk RX8 34 8 15 (.array .int) true := ⟨RX8, TX8, 41, tyX8, clX8, by decide, rfl, rfl, rfl, Or.inl wd679⟩
theorem wd680 : Cond.methodLink RX8 251 yX8_armOf ∈ tblG := gw7 72 (by decide +kernel) (by decide +kernel)
theorem wd681 : Cond.instanceMethod yX8_armOf ∈ tblG := gw7 74 (by decide +kernel) (by decide +kernel)
theorem wd682 : Cond.selects RX8 yX8_armOf yX8_armOf ∈ tblG := gw0 69 (by decide +kernel) (by decide +kernel)
theorem wd683 : Cond.code yX8_armOf cX8_armOf 2 (some .int) ∈ tblG := gw7 75 (by decide +kernel) (by decide +kernel)
theorem pl_X8_armOf : Plain yX8_armOf 1 := ⟨by decide, by decide, by decide +kernel⟩
theorem lk_X8_251 : LkV RX8 251 8 yX8_armOf cX8_armOf 2 (some .int) 1 := ⟨⟨TX8, 41, rfl⟩, wd680, wd681, wd682, wd649, wd683, pl_X8_armOf⟩
theorem wd684 : Cond.fieldLink RX8 40 RX8 "armNow" "[I" ∈ tblG := gw6 54 (by decide +kernel) (by decide +kernel)
theorem fk_X8_40 : FLk RX8 40 8 20 (.array .int) true := ⟨RX8, TX8, 41, tyX8, clX8, by decide, rfl, rfl, rfl, Or.inl wd684⟩
theorem wd685 : Cond.methodLink RX8 245 yX8_roadMany ∈ tblG := gw7 56 (by decide +kernel) (by decide +kernel)
theorem wd686 : Cond.instanceMethod yX8_roadMany ∈ tblG := gw7 58 (by decide +kernel) (by decide +kernel)
theorem wd687 : Cond.selects RX8 yX8_roadMany yX8_roadMany ∈ tblG := gw0 67 (by decide +kernel) (by decide +kernel)
theorem wd688 : Cond.code yX8_roadMany cX8_roadMany 2 (some .int) ∈ tblG := gw7 59 (by decide +kernel) (by decide +kernel)
theorem pl_X8_roadMany : Plain yX8_roadMany 1 := ⟨by decide, by decide, by decide +kernel⟩
theorem lk_X8_245 : LkV RX8 245 8 yX8_roadMany cX8_roadMany 2 (some .int) 1 := ⟨⟨TX8, 41, rfl⟩, wd685, wd686, wd687, wd649, wd688, pl_X8_roadMany⟩
theorem wd689 : Cond.methodLink RX8 266 yX8_bit ∈ tblG := gw7 132 (by decide +kernel) (by decide +kernel)
theorem wd690 : Cond.static yX8_bit ∈ tblG := gw7 133 (by decide +kernel) (by decide +kernel)
theorem wd691 : Cond.code yX8_bit cX8_bit 2 (some .int) ∈ tblG := gw7 134 (by decide +kernel) (by decide +kernel)
theorem pl_X8_bit : Plain yX8_bit 2 := ⟨by decide, by decide, by decide +kernel⟩
theorem lk_X8_266 : LkS RX8 266 yX8_bit cX8_bit 2 (some .int) 2 := ⟨wd689, wd690, wd649, wd691, pl_X8_bit⟩
theorem wd692 : Cond.methodLink RX8 269 yX8_turn ∈ tblG := gw7 128 (by decide +kernel) (by decide +kernel)
theorem wd693 : Cond.instanceMethod yX8_turn ∈ tblG := gw7 130 (by decide +kernel) (by decide +kernel)
theorem wd694 : Cond.selects RX8 yX8_turn yX8_turn ∈ tblG := gw0 79 (by decide +kernel) (by decide +kernel)
theorem wd695 : Cond.code yX8_turn cX8_turn 3 none ∈ tblG := gw7 131 (by decide +kernel) (by decide +kernel)
theorem pl_X8_turn : Plain yX8_turn 2 := ⟨by decide, by decide, by decide +kernel⟩
theorem lk_X8_269 : LkV RX8 269 8 yX8_turn cX8_turn 3 none 2 := ⟨⟨TX8, 41, rfl⟩, wd692, wd693, wd694, wd649, wd695, pl_X8_turn⟩
theorem wd696 : Cond.methodLink RX8 248 yX8_roadTo ∈ tblG := gw7 64 (by decide +kernel) (by decide +kernel)
theorem wd697 : Cond.instanceMethod yX8_roadTo ∈ tblG := gw7 66 (by decide +kernel) (by decide +kernel)
theorem wd698 : Cond.selects RX8 yX8_roadTo yX8_roadTo ∈ tblG := gw0 68 (by decide +kernel) (by decide +kernel)
theorem wd699 : Cond.code yX8_roadTo cX8_roadTo 3 (some .int) ∈ tblG := gw7 67 (by decide +kernel) (by decide +kernel)
theorem pl_X8_roadTo : Plain yX8_roadTo 2 := ⟨by decide, by decide, by decide +kernel⟩
theorem lk_X8_248 : LkV RX8 248 8 yX8_roadTo cX8_roadTo 3 (some .int) 2 := ⟨⟨TX8, 41, rfl⟩, wd696, wd697, wd698, wd649, wd699, pl_X8_roadTo⟩
theorem wd700 : Cond.fieldLink RX8 43 RX8 "placeNow" "[I" ∈ tblG := gw6 55 (by decide +kernel) (by decide +kernel)
theorem fk_X8_43 : FLk RX8 43 8 21 (.array .int) true := ⟨RX8, TX8, 41, tyX8, clX8, by decide, rfl, rfl, rfl, Or.inl wd700⟩
theorem wd701 : Cond.methodLink RX8 273 yX8_sendBy ∈ tblG := gw7 143 (by decide +kernel) (by decide +kernel)
theorem wd702 : Cond.instanceMethod yX8_sendBy ∈ tblG := gw7 145 (by decide +kernel) (by decide +kernel)
theorem wd703 : Cond.selects RX8 yX8_sendBy yX8_sendBy ∈ tblG := gw0 82 (by decide +kernel) (by decide +kernel)
theorem wd704 : Cond.code yX8_sendBy cX8_sendBy 3 (some .int) ∈ tblG := gw7 146 (by decide +kernel) (by decide +kernel)
theorem pl_X8_sendBy : Plain yX8_sendBy 1 := ⟨by decide, by decide, by decide +kernel⟩
theorem lk_X8_273 : LkV RX8 273 8 yX8_sendBy cX8_sendBy 3 (some .int) 1 := ⟨⟨TX8, 41, rfl⟩, wd701, wd702, wd703, wd649, wd704, pl_X8_sendBy⟩
theorem wd705 : Cond.fieldLink RX8 52 RX8 "sentAt" "[I" ∈ tblG := gw6 58 (by decide +kernel) (by decide +kernel)
theorem fk_X8_52 : FLk RX8 52 8 24 (.array .int) true := ⟨RX8, TX8, 41, tyX8, clX8, by decide, rfl, rfl, rfl, Or.inl wd705⟩
theorem wd706 : Cond.fieldLink RX8 55 RX8 "sentBy" "[I" ∈ tblG := gw6 59 (by decide +kernel) (by decide +kernel)
theorem fk_X8_55 : FLk RX8 55 8 25 (.array .int) true := ⟨RX8, TX8, 41, tyX8, clX8, by decide, rfl, rfl, rfl, Or.inl wd706⟩
theorem wd707 : Cond.fieldLink RX8 58 RX8 "walked" "[I" ∈ tblG := gw6 60 (by decide +kernel) (by decide +kernel)
theorem fk_X8_58 : FLk RX8 58 8 26 (.array .int) true := ⟨RX8, TX8, 41, tyX8, clX8, by decide, rfl, rfl, rfl, Or.inl wd707⟩
theorem wd708 : Cond.fieldLink RX8 61 RX8 "guestNow" "[I" ∈ tblG := gw6 61 (by decide +kernel) (by decide +kernel)
theorem fk_X8_61 : FLk RX8 61 8 27 (.array .int) true := ⟨RX8, TX8, 41, tyX8, clX8, by decide, rfl, rfl, rfl, Or.inl wd708⟩
theorem wd709 : Cond.fieldLink RX8 64 RX8 "refused" "[I" ∈ tblG := gw6 62 (by decide +kernel) (by decide +kernel)
theorem fk_X8_64 : FLk RX8 64 8 28 (.array .int) true := ⟨RX8, TX8, 41, tyX8, clX8, by decide, rfl, rfl, rfl, Or.inl wd709⟩
theorem wd710 : Cond.methodLink RX8 276 yX8_isHeld ∈ tblG := gw7 135 (by decide +kernel) (by decide +kernel)
theorem wd711 : Cond.instanceMethod yX8_isHeld ∈ tblG := gw7 137 (by decide +kernel) (by decide +kernel)
theorem wd712 : Cond.selects RX8 yX8_isHeld yX8_isHeld ∈ tblG := gw0 80 (by decide +kernel) (by decide +kernel)
theorem wd713 : Cond.code yX8_isHeld cX8_isHeld 5 (some .boolean) ∈ tblG := gw7 138 (by decide +kernel) (by decide +kernel)
theorem pl_X8_isHeld : Plain yX8_isHeld 2 := ⟨by decide, by decide, by decide +kernel⟩
theorem lk_X8_276 : LkV RX8 276 8 yX8_isHeld cX8_isHeld 5 (some .boolean) 2 := ⟨⟨TX8, 41, rfl⟩, wd710, wd711, wd712, wd649, wd713, pl_X8_isHeld⟩
theorem wd714 : Cond.methodLink RX8 280 yX8_sendOne ∈ tblG := gw7 139 (by decide +kernel) (by decide +kernel)
theorem wd715 : Cond.instanceMethod yX8_sendOne ∈ tblG := gw7 141 (by decide +kernel) (by decide +kernel)
theorem wd716 : Cond.selects RX8 yX8_sendOne yX8_sendOne ∈ tblG := gw0 81 (by decide +kernel) (by decide +kernel)
theorem wd717 : Cond.code yX8_sendOne cX8_sendOne 6 none ∈ tblG := gw7 142 (by decide +kernel) (by decide +kernel)
theorem pl_X8_sendOne : Plain yX8_sendOne 2 := ⟨by decide, by decide, by decide +kernel⟩
theorem lk_X8_280 : LkV RX8 280 8 yX8_sendOne cX8_sendOne 6 none 2 := ⟨⟨TX8, 41, rfl⟩, wd714, wd715, wd716, wd649, wd717, pl_X8_sendOne⟩
theorem wd718 : Cond.methodLink RX8 283 yX8_goHour ∈ tblG := gw7 124 (by decide +kernel) (by decide +kernel)
theorem wd719 : Cond.instanceMethod yX8_goHour ∈ tblG := gw7 126 (by decide +kernel) (by decide +kernel)
theorem wd720 : Cond.selects RX8 yX8_goHour yX8_goHour ∈ tblG := gw0 78 (by decide +kernel) (by decide +kernel)
theorem wd721 : Cond.code yX8_goHour cX8_goHour 4 none ∈ tblG := gw7 127 (by decide +kernel) (by decide +kernel)
theorem pl_X8_goHour : Plain yX8_goHour 1 := ⟨by decide, by decide, by decide +kernel⟩
theorem lk_X8_283 : LkV RX8 283 8 yX8_goHour cX8_goHour 4 none 1 := ⟨⟨TX8, 41, rfl⟩, wd718, wd719, wd720, wd649, wd721, pl_X8_goHour⟩
theorem wd722 : Cond.fieldLink RX8 49 RX8 "armAt" "[I" ∈ tblG := gw6 57 (by decide +kernel) (by decide +kernel)
theorem fk_X8_49 : FLk RX8 49 8 23 (.array .int) true := ⟨RX8, TX8, 41, tyX8, clX8, by decide, rfl, rfl, rfl, Or.inl wd722⟩
theorem wd723 : Cond.fieldLink RX8 46 RX8 "placeAt" "[I" ∈ tblG := gw6 56 (by decide +kernel) (by decide +kernel)
theorem fk_X8_46 : FLk RX8 46 8 22 (.array .int) true := ⟨RX8, TX8, 41, tyX8, clX8, by decide, rfl, rfl, rfl, Or.inl wd723⟩
