theorem dX8_areTwo_0 : decode cX8_areTwo 0 = .ok (.aload_n 0, 1) := by decide +kernel
theorem dX8_areTwo_1 : decode cX8_areTwo 1 = .ok (.iload_n 1, 1) := by decide +kernel
theorem dX8_areTwo_2 : decode cX8_areTwo 2 = .ok (.i2l, 1) := by decide +kernel
theorem dX8_areTwo_3 : decode cX8_areTwo 3 = .ok (.invokevirtual 254, 3) := by decide +kernel
theorem dX8_areTwo_6 : decode cX8_areTwo 6 = .ok (.ifCond .eq 21, 3) := by decide +kernel
theorem dX8_areTwo_9 : decode cX8_areTwo 9 = .ok (.aload_n 0, 1) := by decide +kernel
theorem dX8_areTwo_10 : decode cX8_areTwo 10 = .ok (.iload_n 2, 1) := by decide +kernel
theorem dX8_areTwo_11 : decode cX8_areTwo 11 = .ok (.i2l, 1) := by decide +kernel
theorem dX8_areTwo_12 : decode cX8_areTwo 12 = .ok (.invokevirtual 254, 3) := by decide +kernel
theorem dX8_areTwo_15 : decode cX8_areTwo 15 = .ok (.ifCond .eq 12, 3) := by decide +kernel
theorem dX8_areTwo_18 : decode cX8_areTwo 18 = .ok (.iload_n 1, 1) := by decide +kernel
theorem dX8_areTwo_19 : decode cX8_areTwo 19 = .ok (.iload_n 2, 1) := by decide +kernel
theorem dX8_areTwo_20 : decode cX8_areTwo 20 = .ok (.if_icmp .eq 7, 3) := by decide +kernel
theorem dX8_areTwo_23 : decode cX8_areTwo 23 = .ok (.iconst 1, 1) := by decide +kernel
theorem dX8_areTwo_24 : decode cX8_areTwo 24 = .ok (.goto 4, 3) := by decide +kernel
theorem dX8_areTwo_27 : decode cX8_areTwo 27 = .ok (.iconst 0, 1) := by decide +kernel
theorem dX8_areTwo_28 : decode cX8_areTwo 28 = .ok (.ireturn, 1) := by decide +kernel
theorem dX8_meet_0 : decode cX8_meet 0 = .ok (.aload_n 0, 1) := by decide +kernel
theorem dX8_meet_1 : decode cX8_meet 1 = .ok (.invokevirtual 292, 3) := by decide +kernel
theorem dX8_meet_4 : decode cX8_meet 4 = .ok (.pop, 1) := by decide +kernel
theorem dX8_meet_5 : decode cX8_meet 5 = .ok (.aload_n 0, 1) := by decide +kernel
theorem dX8_meet_6 : decode cX8_meet 6 = .ok (.iload_n 1, 1) := by decide +kernel
theorem dX8_meet_7 : decode cX8_meet 7 = .ok (.iload_n 2, 1) := by decide +kernel
theorem dX8_meet_8 : decode cX8_meet 8 = .ok (.invokevirtual 346, 3) := by decide +kernel
theorem dX8_meet_11 : decode cX8_meet 11 = .ok (.ifCond .ne 6, 3) := by decide +kernel
theorem dX8_meet_14 : decode cX8_meet 14 = .ok (.bipush (-2), 2) := by decide +kernel
theorem dX8_meet_16 : decode cX8_meet 16 = .ok (.ireturn, 1) := by decide +kernel
theorem dX8_meet_17 : decode cX8_meet 17 = .ok (.iconst 0, 1) := by decide +kernel
theorem dX8_meet_18 : decode cX8_meet 18 = .ok (.istore_n 3, 1) := by decide +kernel
theorem dX8_meet_19 : decode cX8_meet 19 = .ok (.iload_n 3, 1) := by decide +kernel
theorem dX8_meet_20 : decode cX8_meet 20 = .ok (.aload_n 0, 1) := by decide +kernel
theorem dX8_meet_21 : decode cX8_meet 21 = .ok (.invokevirtual 106, 3) := by decide +kernel
theorem dX8_meet_24 : decode cX8_meet 24 = .ok (.if_icmp .gt 36, 3) := by decide +kernel
theorem dX8_meet_27 : decode cX8_meet 27 = .ok (.aload_n 0, 1) := by decide +kernel
theorem dX8_meet_28 : decode cX8_meet 28 = .ok (.iload_n 1, 1) := by decide +kernel
theorem dX8_meet_29 : decode cX8_meet 29 = .ok (.iload_n 3, 1) := by decide +kernel
theorem dX8_meet_30 : decode cX8_meet 30 = .ok (.invokevirtual 298, 3) := by decide +kernel
theorem dX8_meet_33 : decode cX8_meet 33 = .ok (.iconst (-1), 1) := by decide +kernel
theorem dX8_meet_34 : decode cX8_meet 34 = .ok (.if_icmp .eq 20, 3) := by decide +kernel
theorem dX8_meet_37 : decode cX8_meet 37 = .ok (.aload_n 0, 1) := by decide +kernel
theorem dX8_meet_38 : decode cX8_meet 38 = .ok (.iload_n 1, 1) := by decide +kernel
theorem dX8_meet_39 : decode cX8_meet 39 = .ok (.iload_n 3, 1) := by decide +kernel
theorem dX8_meet_40 : decode cX8_meet 40 = .ok (.invokevirtual 298, 3) := by decide +kernel
theorem dX8_meet_43 : decode cX8_meet 43 = .ok (.aload_n 0, 1) := by decide +kernel
theorem dX8_meet_44 : decode cX8_meet 44 = .ok (.iload_n 2, 1) := by decide +kernel
theorem dX8_meet_45 : decode cX8_meet 45 = .ok (.iload_n 3, 1) := by decide +kernel
theorem dX8_meet_46 : decode cX8_meet 46 = .ok (.invokevirtual 298, 3) := by decide +kernel
theorem dX8_meet_49 : decode cX8_meet 49 = .ok (.if_icmp .ne 5, 3) := by decide +kernel
theorem dX8_meet_52 : decode cX8_meet 52 = .ok (.iload_n 3, 1) := by decide +kernel
theorem dX8_meet_53 : decode cX8_meet 53 = .ok (.ireturn, 1) := by decide +kernel
theorem dX8_meet_54 : decode cX8_meet 54 = .ok (.iinc 3 1, 3) := by decide +kernel
theorem dX8_meet_57 : decode cX8_meet 57 = .ok (.goto (-38), 3) := by decide +kernel
theorem dX8_meet_60 : decode cX8_meet 60 = .ok (.iconst (-1), 1) := by decide +kernel
theorem dX8_meet_61 : decode cX8_meet 61 = .ok (.ireturn, 1) := by decide +kernel
theorem dX8_busy_0 : decode cX8_busy 0 = .ok (.aload_n 0, 1) := by decide +kernel
theorem dX8_busy_1 : decode cX8_busy 1 = .ok (.invokevirtual 292, 3) := by decide +kernel
theorem dX8_busy_4 : decode cX8_busy 4 = .ok (.ifCond .ne 6, 3) := by decide +kernel
theorem dX8_busy_7 : decode cX8_busy 7 = .ok (.bipush (-2), 2) := by decide +kernel
theorem dX8_busy_9 : decode cX8_busy 9 = .ok (.ireturn, 1) := by decide +kernel
theorem dX8_busy_10 : decode cX8_busy 10 = .ok (.iconst (-1), 1) := by decide +kernel
theorem dX8_busy_11 : decode cX8_busy 11 = .ok (.istore_n 1, 1) := by decide +kernel
theorem dX8_busy_12 : decode cX8_busy 12 = .ok (.iconst 0, 1) := by decide +kernel
theorem dX8_busy_13 : decode cX8_busy 13 = .ok (.istore_n 2, 1) := by decide +kernel
theorem dX8_busy_14 : decode cX8_busy 14 = .ok (.iload_n 2, 1) := by decide +kernel
theorem dX8_busy_15 : decode cX8_busy 15 = .ok (.aload_n 0, 1) := by decide +kernel
theorem dX8_busy_16 : decode cX8_busy 16 = .ok (.invokevirtual 98, 3) := by decide +kernel
theorem dX8_busy_19 : decode cX8_busy 19 = .ok (.if_icmp .ge 29, 3) := by decide +kernel
theorem dX8_busy_22 : decode cX8_busy 22 = .ok (.iload_n 1, 1) := by decide +kernel
theorem dX8_busy_23 : decode cX8_busy 23 = .ok (.iconst (-1), 1) := by decide +kernel
theorem dX8_busy_24 : decode cX8_busy 24 = .ok (.if_icmp .eq 16, 3) := by decide +kernel
theorem dX8_busy_27 : decode cX8_busy 27 = .ok (.aload_n 0, 1) := by decide +kernel
theorem dX8_busy_28 : decode cX8_busy 28 = .ok (.iload_n 2, 1) := by decide +kernel
theorem dX8_busy_29 : decode cX8_busy 29 = .ok (.invokevirtual 317, 3) := by decide +kernel
theorem dX8_busy_32 : decode cX8_busy 32 = .ok (.aload_n 0, 1) := by decide +kernel
theorem dX8_busy_33 : decode cX8_busy 33 = .ok (.iload_n 1, 1) := by decide +kernel
theorem dX8_busy_34 : decode cX8_busy 34 = .ok (.invokevirtual 317, 3) := by decide +kernel
theorem dX8_busy_37 : decode cX8_busy 37 = .ok (.if_icmp .le 5, 3) := by decide +kernel
theorem dX8_busy_40 : decode cX8_busy 40 = .ok (.iload_n 2, 1) := by decide +kernel
theorem dX8_busy_41 : decode cX8_busy 41 = .ok (.istore_n 1, 1) := by decide +kernel
theorem dX8_busy_42 : decode cX8_busy 42 = .ok (.iinc 2 1, 3) := by decide +kernel
theorem dX8_busy_45 : decode cX8_busy 45 = .ok (.goto (-31), 3) := by decide +kernel
theorem dX8_busy_48 : decode cX8_busy 48 = .ok (.iload_n 1, 1) := by decide +kernel
theorem dX8_busy_49 : decode cX8_busy 49 = .ok (.ireturn, 1) := by decide +kernel
theorem dX8_idle_0 : decode cX8_idle 0 = .ok (.aload_n 0, 1) := by decide +kernel
theorem dX8_idle_1 : decode cX8_idle 1 = .ok (.invokevirtual 292, 3) := by decide +kernel
theorem dX8_idle_4 : decode cX8_idle 4 = .ok (.ifCond .ne 6, 3) := by decide +kernel
theorem dX8_idle_7 : decode cX8_idle 7 = .ok (.bipush (-2), 2) := by decide +kernel
theorem dX8_idle_9 : decode cX8_idle 9 = .ok (.ireturn, 1) := by decide +kernel
theorem dX8_idle_10 : decode cX8_idle 10 = .ok (.iconst 0, 1) := by decide +kernel
theorem dX8_idle_11 : decode cX8_idle 11 = .ok (.istore_n 1, 1) := by decide +kernel
theorem dX8_idle_12 : decode cX8_idle 12 = .ok (.iconst 0, 1) := by decide +kernel
theorem dX8_idle_13 : decode cX8_idle 13 = .ok (.istore_n 2, 1) := by decide +kernel
theorem dX8_idle_14 : decode cX8_idle 14 = .ok (.iload_n 2, 1) := by decide +kernel
theorem dX8_idle_15 : decode cX8_idle 15 = .ok (.aload_n 0, 1) := by decide +kernel
theorem dX8_idle_16 : decode cX8_idle 16 = .ok (.invokevirtual 98, 3) := by decide +kernel
theorem dX8_idle_19 : decode cX8_idle 19 = .ok (.if_icmp .ge 27, 3) := by decide +kernel
theorem dX8_idle_22 : decode cX8_idle 22 = .ok (.iload_n 1, 1) := by decide +kernel
theorem dX8_idle_23 : decode cX8_idle 23 = .ok (.aload_n 0, 1) := by decide +kernel
theorem dX8_idle_24 : decode cX8_idle 24 = .ok (.iload_n 2, 1) := by decide +kernel
theorem dX8_idle_25 : decode cX8_idle 25 = .ok (.invokevirtual 317, 3) := by decide +kernel
theorem dX8_idle_28 : decode cX8_idle 28 = .ok (.ifCond .ne 9, 3) := by decide +kernel
theorem dX8_idle_31 : decode cX8_idle 31 = .ok (.iconst 1, 1) := by decide +kernel
theorem dX8_idle_32 : decode cX8_idle 32 = .ok (.iload_n 2, 1) := by decide +kernel
theorem dX8_idle_33 : decode cX8_idle 33 = .ok (.ishl, 1) := by decide +kernel
theorem dX8_idle_34 : decode cX8_idle 34 = .ok (.goto 4, 3) := by decide +kernel
theorem dX8_idle_37 : decode cX8_idle 37 = .ok (.iconst 0, 1) := by decide +kernel
theorem dX8_idle_38 : decode cX8_idle 38 = .ok (.ior, 1) := by decide +kernel
theorem dX8_idle_39 : decode cX8_idle 39 = .ok (.istore_n 1, 1) := by decide +kernel
theorem dX8_idle_40 : decode cX8_idle 40 = .ok (.iinc 2 1, 3) := by decide +kernel
theorem dX8_idle_43 : decode cX8_idle 43 = .ok (.goto (-29), 3) := by decide +kernel
theorem dX8_idle_46 : decode cX8_idle 46 = .ok (.iload_n 1, 1) := by decide +kernel
theorem dX8_idle_47 : decode cX8_idle 47 = .ok (.ireturn, 1) := by decide +kernel
theorem dX8_goOn_0 : decode cX8_goOn 0 = .ok (.iload_n 1, 1) := by decide +kernel
theorem dX8_goOn_1 : decode cX8_goOn 1 = .ok (.istore_n 2, 1) := by decide +kernel
theorem dX8_goOn_2 : decode cX8_goOn 2 = .ok (.iconst 0, 1) := by decide +kernel
theorem dX8_goOn_3 : decode cX8_goOn 3 = .ok (.istore_n 3, 1) := by decide +kernel
theorem dX8_goOn_4 : decode cX8_goOn 4 = .ok (.iload_n 3, 1) := by decide +kernel
theorem dX8_goOn_5 : decode cX8_goOn 5 = .ok (.aload_n 0, 1) := by decide +kernel
theorem dX8_goOn_6 : decode cX8_goOn 6 = .ok (.invokevirtual 98, 3) := by decide +kernel
theorem dX8_goOn_9 : decode cX8_goOn 9 = .ok (.if_icmp .ge 53, 3) := by decide +kernel
theorem dX8_goOn_12 : decode cX8_goOn 12 = .ok (.iconst 0, 1) := by decide +kernel
theorem dX8_goOn_13 : decode cX8_goOn 13 = .ok (.istore 4, 2) := by decide +kernel
theorem dX8_goOn_15 : decode cX8_goOn 15 = .ok (.iload 4, 2) := by decide +kernel
theorem dX8_goOn_17 : decode cX8_goOn 17 = .ok (.aload_n 0, 1) := by decide +kernel
theorem dX8_goOn_18 : decode cX8_goOn 18 = .ok (.iload_n 3, 1) := by decide +kernel
theorem dX8_goOn_19 : decode cX8_goOn 19 = .ok (.invokevirtual 245, 3) := by decide +kernel
theorem dX8_goOn_22 : decode cX8_goOn 22 = .ok (.if_icmp .ge 34, 3) := by decide +kernel
theorem dX8_goOn_25 : decode cX8_goOn 25 = .ok (.iload_n 2, 1) := by decide +kernel
theorem dX8_goOn_26 : decode cX8_goOn 26 = .ok (.iload_n 1, 1) := by decide +kernel
theorem dX8_goOn_27 : decode cX8_goOn 27 = .ok (.iload_n 3, 1) := by decide +kernel
theorem dX8_goOn_28 : decode cX8_goOn 28 = .ok (.invokestatic 266, 3) := by decide +kernel
theorem dX8_goOn_31 : decode cX8_goOn 31 = .ok (.iconst 1, 1) := by decide +kernel
theorem dX8_goOn_32 : decode cX8_goOn 32 = .ok (.if_icmp .ne 15, 3) := by decide +kernel
theorem dX8_goOn_35 : decode cX8_goOn 35 = .ok (.iconst 1, 1) := by decide +kernel
theorem dX8_goOn_36 : decode cX8_goOn 36 = .ok (.aload_n 0, 1) := by decide +kernel
theorem dX8_goOn_37 : decode cX8_goOn 37 = .ok (.iload_n 3, 1) := by decide +kernel
theorem dX8_goOn_38 : decode cX8_goOn 38 = .ok (.iload 4, 2) := by decide +kernel
theorem dX8_goOn_40 : decode cX8_goOn 40 = .ok (.invokevirtual 248, 3) := by decide +kernel
theorem dX8_goOn_43 : decode cX8_goOn 43 = .ok (.ishl, 1) := by decide +kernel
theorem dX8_goOn_44 : decode cX8_goOn 44 = .ok (.goto 4, 3) := by decide +kernel
theorem dX8_goOn_47 : decode cX8_goOn 47 = .ok (.iconst 0, 1) := by decide +kernel
theorem dX8_goOn_48 : decode cX8_goOn 48 = .ok (.ior, 1) := by decide +kernel
theorem dX8_goOn_49 : decode cX8_goOn 49 = .ok (.istore_n 2, 1) := by decide +kernel
theorem dX8_goOn_50 : decode cX8_goOn 50 = .ok (.iinc 4 1, 3) := by decide +kernel
theorem dX8_goOn_53 : decode cX8_goOn 53 = .ok (.goto (-38), 3) := by decide +kernel
theorem dX8_goOn_56 : decode cX8_goOn 56 = .ok (.iinc 3 1, 3) := by decide +kernel
theorem dX8_goOn_59 : decode cX8_goOn 59 = .ok (.goto (-55), 3) := by decide +kernel
theorem dX8_goOn_62 : decode cX8_goOn 62 = .ok (.iload_n 2, 1) := by decide +kernel
theorem dX8_goOn_63 : decode cX8_goOn 63 = .ok (.ireturn, 1) := by decide +kernel
theorem dX8_reach_0 : decode cX8_reach 0 = .ok (.aload_n 0, 1) := by decide +kernel
theorem dX8_reach_1 : decode cX8_reach 1 = .ok (.iload_n 1, 1) := by decide +kernel
theorem dX8_reach_2 : decode cX8_reach 2 = .ok (.i2l, 1) := by decide +kernel
theorem dX8_reach_3 : decode cX8_reach 3 = .ok (.invokevirtual 112, 3) := by decide +kernel
theorem dX8_reach_6 : decode cX8_reach 6 = .ok (.ifCond .ne 6, 3) := by decide +kernel
theorem dX8_reach_9 : decode cX8_reach 9 = .ok (.bipush (-2), 2) := by decide +kernel
theorem dX8_reach_11 : decode cX8_reach 11 = .ok (.ireturn, 1) := by decide +kernel
theorem dX8_reach_12 : decode cX8_reach 12 = .ok (.iconst 1, 1) := by decide +kernel
theorem dX8_reach_13 : decode cX8_reach 13 = .ok (.iload_n 1, 1) := by decide +kernel
theorem dX8_reach_14 : decode cX8_reach 14 = .ok (.ishl, 1) := by decide +kernel
theorem dX8_reach_15 : decode cX8_reach 15 = .ok (.istore_n 2, 1) := by decide +kernel
theorem dX8_reach_16 : decode cX8_reach 16 = .ok (.iconst 0, 1) := by decide +kernel
theorem dX8_reach_17 : decode cX8_reach 17 = .ok (.istore_n 3, 1) := by decide +kernel
theorem dX8_reach_18 : decode cX8_reach 18 = .ok (.iload_n 3, 1) := by decide +kernel
theorem dX8_reach_19 : decode cX8_reach 19 = .ok (.bipush 7, 2) := by decide +kernel
theorem dX8_reach_21 : decode cX8_reach 21 = .ok (.if_icmp .gt 15, 3) := by decide +kernel
theorem dX8_reach_24 : decode cX8_reach 24 = .ok (.aload_n 0, 1) := by decide +kernel
theorem dX8_reach_25 : decode cX8_reach 25 = .ok (.iload_n 2, 1) := by decide +kernel
theorem dX8_reach_26 : decode cX8_reach 26 = .ok (.invokevirtual 349, 3) := by decide +kernel
theorem dX8_reach_29 : decode cX8_reach 29 = .ok (.istore_n 2, 1) := by decide +kernel
theorem dX8_reach_30 : decode cX8_reach 30 = .ok (.iinc 3 1, 3) := by decide +kernel
theorem dX8_reach_33 : decode cX8_reach 33 = .ok (.goto (-15), 3) := by decide +kernel
theorem dX8_reach_36 : decode cX8_reach 36 = .ok (.iload_n 2, 1) := by decide +kernel
theorem dX8_reach_37 : decode cX8_reach 37 = .ok (.ireturn, 1) := by decide +kernel
theorem dX8_far_0 : decode cX8_far 0 = .ok (.aload_n 0, 1) := by decide +kernel
theorem dX8_far_1 : decode cX8_far 1 = .ok (.iload_n 1, 1) := by decide +kernel
theorem dX8_far_2 : decode cX8_far 2 = .ok (.i2l, 1) := by decide +kernel
theorem dX8_far_3 : decode cX8_far 3 = .ok (.invokevirtual 112, 3) := by decide +kernel
theorem dX8_far_6 : decode cX8_far 6 = .ok (.ifCond .eq 12, 3) := by decide +kernel
theorem dX8_far_9 : decode cX8_far 9 = .ok (.aload_n 0, 1) := by decide +kernel
theorem dX8_far_10 : decode cX8_far 10 = .ok (.iload_n 2, 1) := by decide +kernel
theorem dX8_far_11 : decode cX8_far 11 = .ok (.i2l, 1) := by decide +kernel
theorem dX8_far_12 : decode cX8_far 12 = .ok (.invokevirtual 305, 3) := by decide +kernel
theorem dX8_far_15 : decode cX8_far 15 = .ok (.ifCond .ne 6, 3) := by decide +kernel
theorem dX8_far_18 : decode cX8_far 18 = .ok (.bipush (-2), 2) := by decide +kernel
theorem dX8_far_20 : decode cX8_far 20 = .ok (.ireturn, 1) := by decide +kernel
theorem dX8_far_21 : decode cX8_far 21 = .ok (.iconst 1, 1) := by decide +kernel
theorem dX8_far_22 : decode cX8_far 22 = .ok (.iload_n 1, 1) := by decide +kernel
theorem dX8_far_23 : decode cX8_far 23 = .ok (.ishl, 1) := by decide +kernel
theorem dX8_far_24 : decode cX8_far 24 = .ok (.istore_n 3, 1) := by decide +kernel
theorem dX8_far_25 : decode cX8_far 25 = .ok (.iconst 0, 1) := by decide +kernel
theorem dX8_far_26 : decode cX8_far 26 = .ok (.istore 4, 2) := by decide +kernel
theorem dX8_far_28 : decode cX8_far 28 = .ok (.iload 4, 2) := by decide +kernel
theorem dX8_far_30 : decode cX8_far 30 = .ok (.bipush 7, 2) := by decide +kernel
theorem dX8_far_32 : decode cX8_far 32 = .ok (.if_icmp .gt 27, 3) := by decide +kernel
theorem dX8_far_35 : decode cX8_far 35 = .ok (.iload_n 3, 1) := by decide +kernel
theorem dX8_far_36 : decode cX8_far 36 = .ok (.iload_n 2, 1) := by decide +kernel
theorem dX8_far_37 : decode cX8_far 37 = .ok (.invokestatic 266, 3) := by decide +kernel
theorem dX8_far_40 : decode cX8_far 40 = .ok (.iconst 1, 1) := by decide +kernel
theorem dX8_far_41 : decode cX8_far 41 = .ok (.if_icmp .ne 6, 3) := by decide +kernel
theorem dX8_far_44 : decode cX8_far 44 = .ok (.iload 4, 2) := by decide +kernel
theorem dX8_far_46 : decode cX8_far 46 = .ok (.ireturn, 1) := by decide +kernel
theorem dX8_far_47 : decode cX8_far 47 = .ok (.aload_n 0, 1) := by decide +kernel
theorem dX8_far_48 : decode cX8_far 48 = .ok (.iload_n 3, 1) := by decide +kernel
theorem dX8_far_49 : decode cX8_far 49 = .ok (.invokevirtual 349, 3) := by decide +kernel
theorem dX8_far_52 : decode cX8_far 52 = .ok (.istore_n 3, 1) := by decide +kernel
theorem dX8_far_53 : decode cX8_far 53 = .ok (.iinc 4 1, 3) := by decide +kernel
theorem dX8_far_56 : decode cX8_far 56 = .ok (.goto (-28), 3) := by decide +kernel
theorem dX8_far_59 : decode cX8_far 59 = .ok (.iconst (-1), 1) := by decide +kernel
theorem dX8_far_60 : decode cX8_far 60 = .ok (.ireturn, 1) := by decide +kernel
theorem dX8_numberOf_0 : decode cX8_numberOf 0 = .ok (.iconst 0, 1) := by decide +kernel
theorem dX8_numberOf_1 : decode cX8_numberOf 1 = .ok (.istore_n 1, 1) := by decide +kernel
theorem dX8_numberOf_2 : decode cX8_numberOf 2 = .ok (.iconst 1, 1) := by decide +kernel
theorem dX8_numberOf_3 : decode cX8_numberOf 3 = .ok (.istore_n 2, 1) := by decide +kernel
theorem dX8_numberOf_4 : decode cX8_numberOf 4 = .ok (.iconst 0, 1) := by decide +kernel
theorem dX8_numberOf_5 : decode cX8_numberOf 5 = .ok (.istore_n 3, 1) := by decide +kernel
theorem dX8_numberOf_6 : decode cX8_numberOf 6 = .ok (.iload_n 3, 1) := by decide +kernel
theorem dX8_numberOf_7 : decode cX8_numberOf 7 = .ok (.aload_n 0, 1) := by decide +kernel
theorem dX8_numberOf_8 : decode cX8_numberOf 8 = .ok (.invokevirtual 98, 3) := by decide +kernel
theorem dX8_numberOf_11 : decode cX8_numberOf 11 = .ok (.if_icmp .ge 39, 3) := by decide +kernel
theorem dX8_numberOf_14 : decode cX8_numberOf 14 = .ok (.aload_n 0, 1) := by decide +kernel
theorem dX8_numberOf_15 : decode cX8_numberOf 15 = .ok (.iload_n 3, 1) := by decide +kernel
theorem dX8_numberOf_16 : decode cX8_numberOf 16 = .ok (.invokevirtual 245, 3) := by decide +kernel
theorem dX8_numberOf_19 : decode cX8_numberOf 19 = .ok (.ifCond .ne 6, 3) := by decide +kernel
theorem dX8_numberOf_22 : decode cX8_numberOf 22 = .ok (.goto 22, 3) := by decide +kernel
theorem dX8_numberOf_25 : decode cX8_numberOf 25 = .ok (.iload_n 1, 1) := by decide +kernel
theorem dX8_numberOf_26 : decode cX8_numberOf 26 = .ok (.iload_n 2, 1) := by decide +kernel
theorem dX8_numberOf_27 : decode cX8_numberOf 27 = .ok (.aload_n 0, 1) := by decide +kernel
theorem dX8_numberOf_28 : decode cX8_numberOf 28 = .ok (.getfield 67, 3) := by decide +kernel
theorem dX8_numberOf_31 : decode cX8_numberOf 31 = .ok (.iload_n 3, 1) := by decide +kernel
theorem dX8_numberOf_32 : decode cX8_numberOf 32 = .ok (.iaload, 1) := by decide +kernel
theorem dX8_numberOf_33 : decode cX8_numberOf 33 = .ok (.imul, 1) := by decide +kernel
theorem dX8_numberOf_34 : decode cX8_numberOf 34 = .ok (.iadd, 1) := by decide +kernel
theorem dX8_numberOf_35 : decode cX8_numberOf 35 = .ok (.istore_n 1, 1) := by decide +kernel
theorem dX8_numberOf_36 : decode cX8_numberOf 36 = .ok (.iload_n 2, 1) := by decide +kernel
theorem dX8_numberOf_37 : decode cX8_numberOf 37 = .ok (.aload_n 0, 1) := by decide +kernel
theorem dX8_numberOf_38 : decode cX8_numberOf 38 = .ok (.iload_n 3, 1) := by decide +kernel
theorem dX8_numberOf_39 : decode cX8_numberOf 39 = .ok (.invokevirtual 245, 3) := by decide +kernel
theorem dX8_numberOf_42 : decode cX8_numberOf 42 = .ok (.imul, 1) := by decide +kernel
theorem dX8_numberOf_43 : decode cX8_numberOf 43 = .ok (.istore_n 2, 1) := by decide +kernel
theorem dX8_numberOf_44 : decode cX8_numberOf 44 = .ok (.iinc 3 1, 3) := by decide +kernel
theorem dX8_numberOf_47 : decode cX8_numberOf 47 = .ok (.goto (-41), 3) := by decide +kernel
theorem dX8_numberOf_50 : decode cX8_numberOf 50 = .ok (.iload_n 1, 1) := by decide +kernel
theorem dX8_numberOf_51 : decode cX8_numberOf 51 = .ok (.ireturn, 1) := by decide +kernel
theorem dX8_settingMany_0 : decode cX8_settingMany 0 = .ok (.iconst 1, 1) := by decide +kernel
theorem dX8_settingMany_1 : decode cX8_settingMany 1 = .ok (.istore_n 1, 1) := by decide +kernel
theorem dX8_settingMany_2 : decode cX8_settingMany 2 = .ok (.iconst 0, 1) := by decide +kernel
theorem dX8_settingMany_3 : decode cX8_settingMany 3 = .ok (.istore_n 2, 1) := by decide +kernel
theorem dX8_settingMany_4 : decode cX8_settingMany 4 = .ok (.iload_n 2, 1) := by decide +kernel
theorem dX8_settingMany_5 : decode cX8_settingMany 5 = .ok (.aload_n 0, 1) := by decide +kernel
theorem dX8_settingMany_6 : decode cX8_settingMany 6 = .ok (.invokevirtual 98, 3) := by decide +kernel
theorem dX8_settingMany_9 : decode cX8_settingMany 9 = .ok (.if_icmp .ge 21, 3) := by decide +kernel
theorem dX8_settingMany_12 : decode cX8_settingMany 12 = .ok (.iload_n 1, 1) := by decide +kernel
theorem dX8_settingMany_13 : decode cX8_settingMany 13 = .ok (.iconst 1, 1) := by decide +kernel
theorem dX8_settingMany_14 : decode cX8_settingMany 14 = .ok (.aload_n 0, 1) := by decide +kernel
theorem dX8_settingMany_15 : decode cX8_settingMany 15 = .ok (.iload_n 2, 1) := by decide +kernel
theorem dX8_settingMany_16 : decode cX8_settingMany 16 = .ok (.invokevirtual 245, 3) := by decide +kernel
theorem dX8_settingMany_19 : decode cX8_settingMany 19 = .ok (.invokestatic 343, 3) := by decide +kernel
theorem dX8_settingMany_22 : decode cX8_settingMany 22 = .ok (.imul, 1) := by decide +kernel
theorem dX8_settingMany_23 : decode cX8_settingMany 23 = .ok (.istore_n 1, 1) := by decide +kernel
theorem dX8_settingMany_24 : decode cX8_settingMany 24 = .ok (.iinc 2 1, 3) := by decide +kernel
theorem dX8_settingMany_27 : decode cX8_settingMany 27 = .ok (.goto (-23), 3) := by decide +kernel
theorem dX8_settingMany_30 : decode cX8_settingMany 30 = .ok (.iload_n 1, 1) := by decide +kernel
theorem dX8_settingMany_31 : decode cX8_settingMany 31 = .ok (.ireturn, 1) := by decide +kernel
theorem dX8_someAt_0 : decode cX8_someAt 0 = .ok (.iconst 0, 1) := by decide +kernel
theorem dX8_someAt_1 : decode cX8_someAt 1 = .ok (.istore_n 2, 1) := by decide +kernel
theorem dX8_someAt_2 : decode cX8_someAt 2 = .ok (.iload_n 2, 1) := by decide +kernel
theorem dX8_someAt_3 : decode cX8_someAt 3 = .ok (.bipush 7, 2) := by decide +kernel
theorem dX8_someAt_5 : decode cX8_someAt 5 = .ok (.if_icmp .ge 26, 3) := by decide +kernel
theorem dX8_someAt_8 : decode cX8_someAt 8 = .ok (.aload_n 0, 1) := by decide +kernel
theorem dX8_someAt_9 : decode cX8_someAt 9 = .ok (.getfield 67, 3) := by decide +kernel
theorem dX8_someAt_12 : decode cX8_someAt 12 = .ok (.iload_n 2, 1) := by decide +kernel
theorem dX8_someAt_13 : decode cX8_someAt 13 = .ok (.aload_n 0, 1) := by decide +kernel
theorem dX8_someAt_14 : decode cX8_someAt 14 = .ok (.getfield 49, 3) := by decide +kernel
theorem dX8_someAt_17 : decode cX8_someAt 17 = .ok (.bipush 7, 2) := by decide +kernel
theorem dX8_someAt_19 : decode cX8_someAt 19 = .ok (.iload_n 1, 1) := by decide +kernel
theorem dX8_someAt_20 : decode cX8_someAt 20 = .ok (.imul, 1) := by decide +kernel
theorem dX8_someAt_21 : decode cX8_someAt 21 = .ok (.iload_n 2, 1) := by decide +kernel
theorem dX8_someAt_22 : decode cX8_someAt 22 = .ok (.iadd, 1) := by decide +kernel
theorem dX8_someAt_23 : decode cX8_someAt 23 = .ok (.iaload, 1) := by decide +kernel
theorem dX8_someAt_24 : decode cX8_someAt 24 = .ok (.iastore, 1) := by decide +kernel
theorem dX8_someAt_25 : decode cX8_someAt 25 = .ok (.iinc 2 1, 3) := by decide +kernel
theorem dX8_someAt_28 : decode cX8_someAt 28 = .ok (.goto (-26), 3) := by decide +kernel
theorem dX8_someAt_31 : decode cX8_someAt 31 = .ok (.return_, 1) := by decide +kernel
theorem dX8_settingAt_0 : decode cX8_settingAt 0 = .ok (.aload_n 0, 1) := by decide +kernel
theorem dX8_settingAt_1 : decode cX8_settingAt 1 = .ok (.iload_n 1, 1) := by decide +kernel
theorem dX8_settingAt_2 : decode cX8_settingAt 2 = .ok (.invokevirtual 352, 3) := by decide +kernel
theorem dX8_settingAt_5 : decode cX8_settingAt 5 = .ok (.aload_n 0, 1) := by decide +kernel
theorem dX8_settingAt_6 : decode cX8_settingAt 6 = .ok (.invokevirtual 355, 3) := by decide +kernel
theorem dX8_settingAt_9 : decode cX8_settingAt 9 = .ok (.ireturn, 1) := by decide +kernel
theorem dX8_setting_0 : decode cX8_setting 0 = .ok (.aload_n 0, 1) := by decide +kernel
theorem dX8_setting_1 : decode cX8_setting 1 = .ok (.iload_n 1, 1) := by decide +kernel
theorem dX8_setting_2 : decode cX8_setting 2 = .ok (.invokevirtual 301, 3) := by decide +kernel
theorem dX8_setting_5 : decode cX8_setting 5 = .ok (.ifCond .eq 11, 3) := by decide +kernel
theorem dX8_setting_8 : decode cX8_setting 8 = .ok (.aload_n 0, 1) := by decide +kernel
theorem dX8_setting_9 : decode cX8_setting 9 = .ok (.iload_n 1, 1) := by decide +kernel
theorem dX8_setting_10 : decode cX8_setting 10 = .ok (.invokevirtual 358, 3) := by decide +kernel
theorem dX8_setting_13 : decode cX8_setting 13 = .ok (.goto 5, 3) := by decide +kernel
theorem dX8_setting_16 : decode cX8_setting 16 = .ok (.bipush (-2), 2) := by decide +kernel
theorem dX8_setting_18 : decode cX8_setting 18 = .ok (.ireturn, 1) := by decide +kernel
theorem dX8_settings_0 : decode cX8_settings 0 = .ok (.aload_n 0, 1) := by decide +kernel
theorem dX8_settings_1 : decode cX8_settings 1 = .ok (.invokevirtual 102, 3) := by decide +kernel
theorem dX8_settings_4 : decode cX8_settings 4 = .ok (.ifCond .eq 10, 3) := by decide +kernel
theorem dX8_settings_7 : decode cX8_settings 7 = .ok (.aload_n 0, 1) := by decide +kernel
theorem dX8_settings_8 : decode cX8_settings 8 = .ok (.invokevirtual 361, 3) := by decide +kernel
theorem dX8_settings_11 : decode cX8_settings 11 = .ok (.goto 5, 3) := by decide +kernel
theorem dX8_settings_14 : decode cX8_settings 14 = .ok (.bipush (-2), 2) := by decide +kernel
theorem dX8_settings_16 : decode cX8_settings 16 = .ok (.ireturn, 1) := by decide +kernel
theorem dX8_same_0 : decode cX8_same 0 = .ok (.aload_n 0, 1) := by decide +kernel
theorem dX8_same_1 : decode cX8_same 1 = .ok (.invokevirtual 292, 3) := by decide +kernel
theorem dX8_same_4 : decode cX8_same 4 = .ok (.ifCond .ne 6, 3) := by decide +kernel
theorem dX8_same_7 : decode cX8_same 7 = .ok (.bipush (-2), 2) := by decide +kernel
theorem dX8_same_9 : decode cX8_same 9 = .ok (.ireturn, 1) := by decide +kernel
theorem dX8_same_10 : decode cX8_same 10 = .ok (.iconst 1, 1) := by decide +kernel
theorem dX8_same_11 : decode cX8_same 11 = .ok (.istore_n 1, 1) := by decide +kernel
theorem dX8_same_12 : decode cX8_same 12 = .ok (.iload_n 1, 1) := by decide +kernel
theorem dX8_same_13 : decode cX8_same 13 = .ok (.aload_n 0, 1) := by decide +kernel
theorem dX8_same_14 : decode cX8_same 14 = .ok (.invokevirtual 106, 3) := by decide +kernel
theorem dX8_same_17 : decode cX8_same 17 = .ok (.if_icmp .gt 24, 3) := by decide +kernel
theorem dX8_same_20 : decode cX8_same 20 = .ok (.aload_n 0, 1) := by decide +kernel
theorem dX8_same_21 : decode cX8_same 21 = .ok (.iload_n 1, 1) := by decide +kernel
theorem dX8_same_22 : decode cX8_same 22 = .ok (.invokevirtual 358, 3) := by decide +kernel
theorem dX8_same_25 : decode cX8_same 25 = .ok (.aload_n 0, 1) := by decide +kernel
theorem dX8_same_26 : decode cX8_same 26 = .ok (.iconst 0, 1) := by decide +kernel
theorem dX8_same_27 : decode cX8_same 27 = .ok (.invokevirtual 358, 3) := by decide +kernel
theorem dX8_same_30 : decode cX8_same 30 = .ok (.if_icmp .ne 5, 3) := by decide +kernel
theorem dX8_same_33 : decode cX8_same 33 = .ok (.iload_n 1, 1) := by decide +kernel
theorem dX8_same_34 : decode cX8_same 34 = .ok (.ireturn, 1) := by decide +kernel
theorem dX8_same_35 : decode cX8_same 35 = .ok (.iinc 1 1, 3) := by decide +kernel
theorem dX8_same_38 : decode cX8_same 38 = .ok (.goto (-26), 3) := by decide +kernel
theorem dX8_same_41 : decode cX8_same 41 = .ok (.iconst (-1), 1) := by decide +kernel
theorem dX8_same_42 : decode cX8_same 42 = .ok (.ireturn, 1) := by decide +kernel
theorem dX8_armGoes_0 : decode cX8_armGoes 0 = .ok (.aload_n 0, 1) := by decide +kernel
theorem dX8_armGoes_1 : decode cX8_armGoes 1 = .ok (.iload_n 1, 1) := by decide +kernel
theorem dX8_armGoes_2 : decode cX8_armGoes 2 = .ok (.invokevirtual 245, 3) := by decide +kernel
theorem dX8_armGoes_5 : decode cX8_armGoes 5 = .ok (.ifCond .ne 7, 3) := by decide +kernel
theorem dX8_armGoes_8 : decode cX8_armGoes 8 = .ok (.iconst (-1), 1) := by decide +kernel
theorem dX8_armGoes_9 : decode cX8_armGoes 9 = .ok (.goto 14, 3) := by decide +kernel
theorem dX8_armGoes_12 : decode cX8_armGoes 12 = .ok (.aload_n 0, 1) := by decide +kernel
theorem dX8_armGoes_13 : decode cX8_armGoes 13 = .ok (.iload_n 1, 1) := by decide +kernel
theorem dX8_armGoes_14 : decode cX8_armGoes 14 = .ok (.aload_n 0, 1) := by decide +kernel
theorem dX8_armGoes_15 : decode cX8_armGoes 15 = .ok (.getfield 67, 3) := by decide +kernel
theorem dX8_armGoes_18 : decode cX8_armGoes 18 = .ok (.iload_n 1, 1) := by decide +kernel
theorem dX8_armGoes_19 : decode cX8_armGoes 19 = .ok (.iaload, 1) := by decide +kernel
theorem dX8_armGoes_20 : decode cX8_armGoes 20 = .ok (.invokevirtual 248, 3) := by decide +kernel
theorem dX8_armGoes_23 : decode cX8_armGoes 23 = .ok (.ireturn, 1) := by decide +kernel
theorem dX8_isHomeBy_0 : decode cX8_isHomeBy 0 = .ok (.iload_n 1, 1) := by decide +kernel
theorem dX8_isHomeBy_1 : decode cX8_isHomeBy 1 = .ok (.istore_n 2, 1) := by decide +kernel
theorem dX8_isHomeBy_2 : decode cX8_isHomeBy 2 = .ok (.iconst 0, 1) := by decide +kernel
theorem dX8_isHomeBy_3 : decode cX8_isHomeBy 3 = .ok (.istore_n 3, 1) := by decide +kernel
theorem dX8_isHomeBy_4 : decode cX8_isHomeBy 4 = .ok (.iload_n 3, 1) := by decide +kernel
theorem dX8_isHomeBy_5 : decode cX8_isHomeBy 5 = .ok (.bipush 7, 2) := by decide +kernel
theorem dX8_isHomeBy_7 : decode cX8_isHomeBy 7 = .ok (.if_icmp .gt 27, 3) := by decide +kernel
theorem dX8_isHomeBy_10 : decode cX8_isHomeBy 10 = .ok (.iload_n 2, 1) := by decide +kernel
theorem dX8_isHomeBy_11 : decode cX8_isHomeBy 11 = .ok (.i2l, 1) := by decide +kernel
theorem dX8_isHomeBy_12 : decode cX8_isHomeBy 12 = .ok (.lconst 0, 1) := by decide +kernel
theorem dX8_isHomeBy_13 : decode cX8_isHomeBy 13 = .ok (.ldc2_w 329, 3) := by decide +kernel
theorem dX8_isHomeBy_16 : decode cX8_isHomeBy 16 = .ok (.invokestatic 94, 3) := by decide +kernel
theorem dX8_isHomeBy_19 : decode cX8_isHomeBy 19 = .ok (.ifCond .eq 15, 3) := by decide +kernel
theorem dX8_isHomeBy_22 : decode cX8_isHomeBy 22 = .ok (.aload_n 0, 1) := by decide +kernel
theorem dX8_isHomeBy_23 : decode cX8_isHomeBy 23 = .ok (.iload_n 2, 1) := by decide +kernel
theorem dX8_isHomeBy_24 : decode cX8_isHomeBy 24 = .ok (.invokevirtual 364, 3) := by decide +kernel
theorem dX8_isHomeBy_27 : decode cX8_isHomeBy 27 = .ok (.istore_n 2, 1) := by decide +kernel
theorem dX8_isHomeBy_28 : decode cX8_isHomeBy 28 = .ok (.iinc 3 1, 3) := by decide +kernel
theorem dX8_isHomeBy_31 : decode cX8_isHomeBy 31 = .ok (.goto (-27), 3) := by decide +kernel
theorem dX8_isHomeBy_34 : decode cX8_isHomeBy 34 = .ok (.iload_n 2, 1) := by decide +kernel
theorem dX8_isHomeBy_35 : decode cX8_isHomeBy 35 = .ok (.bipush 10, 2) := by decide +kernel
theorem dX8_isHomeBy_37 : decode cX8_isHomeBy 37 = .ok (.if_icmp .lt 7, 3) := by decide +kernel
theorem dX8_isHomeBy_40 : decode cX8_isHomeBy 40 = .ok (.iconst 1, 1) := by decide +kernel
theorem dX8_isHomeBy_41 : decode cX8_isHomeBy 41 = .ok (.goto 4, 3) := by decide +kernel
theorem dX8_isHomeBy_44 : decode cX8_isHomeBy 44 = .ok (.iconst 0, 1) := by decide +kernel
theorem dX8_isHomeBy_45 : decode cX8_isHomeBy 45 = .ok (.ireturn, 1) := by decide +kernel
theorem dX8_isTree_0 : decode cX8_isTree 0 = .ok (.iconst 1, 1) := by decide +kernel
theorem dX8_isTree_1 : decode cX8_isTree 1 = .ok (.istore_n 1, 1) := by decide +kernel
theorem dX8_isTree_2 : decode cX8_isTree 2 = .ok (.iconst 0, 1) := by decide +kernel
theorem dX8_isTree_3 : decode cX8_isTree 3 = .ok (.istore_n 2, 1) := by decide +kernel
theorem dX8_isTree_4 : decode cX8_isTree 4 = .ok (.iload_n 2, 1) := by decide +kernel
theorem dX8_isTree_5 : decode cX8_isTree 5 = .ok (.aload_n 0, 1) := by decide +kernel
theorem dX8_isTree_6 : decode cX8_isTree 6 = .ok (.invokevirtual 98, 3) := by decide +kernel
theorem dX8_isTree_9 : decode cX8_isTree 9 = .ok (.if_icmp .ge 35, 3) := by decide +kernel
theorem dX8_isTree_12 : decode cX8_isTree 12 = .ok (.iload_n 1, 1) := by decide +kernel
theorem dX8_isTree_13 : decode cX8_isTree 13 = .ok (.ifCond .eq 23, 3) := by decide +kernel
theorem dX8_isTree_16 : decode cX8_isTree 16 = .ok (.aload_n 0, 1) := by decide +kernel
theorem dX8_isTree_17 : decode cX8_isTree 17 = .ok (.iload_n 2, 1) := by decide +kernel
theorem dX8_isTree_18 : decode cX8_isTree 18 = .ok (.invokevirtual 245, 3) := by decide +kernel
theorem dX8_isTree_21 : decode cX8_isTree 21 = .ok (.ifCond .eq 11, 3) := by decide +kernel
theorem dX8_isTree_24 : decode cX8_isTree 24 = .ok (.aload_n 0, 1) := by decide +kernel
theorem dX8_isTree_25 : decode cX8_isTree 25 = .ok (.iload_n 2, 1) := by decide +kernel
theorem dX8_isTree_26 : decode cX8_isTree 26 = .ok (.invokevirtual 367, 3) := by decide +kernel
theorem dX8_isTree_29 : decode cX8_isTree 29 = .ok (.ifCond .eq 7, 3) := by decide +kernel
theorem dX8_isTree_32 : decode cX8_isTree 32 = .ok (.iconst 1, 1) := by decide +kernel
theorem dX8_isTree_33 : decode cX8_isTree 33 = .ok (.goto 4, 3) := by decide +kernel
theorem dX8_isTree_36 : decode cX8_isTree 36 = .ok (.iconst 0, 1) := by decide +kernel
theorem dX8_isTree_37 : decode cX8_isTree 37 = .ok (.istore_n 1, 1) := by decide +kernel
theorem dX8_isTree_38 : decode cX8_isTree 38 = .ok (.iinc 2 1, 3) := by decide +kernel
theorem dX8_isTree_41 : decode cX8_isTree 41 = .ok (.goto (-37), 3) := by decide +kernel
theorem dX8_isTree_44 : decode cX8_isTree 44 = .ok (.iload_n 1, 1) := by decide +kernel
theorem dX8_isTree_45 : decode cX8_isTree 45 = .ok (.ireturn, 1) := by decide +kernel
theorem dX8_tree_0 : decode cX8_tree 0 = .ok (.aload_n 0, 1) := by decide +kernel
theorem dX8_tree_1 : decode cX8_tree 1 = .ok (.iload_n 1, 1) := by decide +kernel
theorem dX8_tree_2 : decode cX8_tree 2 = .ok (.invokevirtual 301, 3) := by decide +kernel
theorem dX8_tree_5 : decode cX8_tree 5 = .ok (.ifCond .ne 6, 3) := by decide +kernel
theorem dX8_tree_8 : decode cX8_tree 8 = .ok (.bipush (-2), 2) := by decide +kernel
theorem dX8_tree_10 : decode cX8_tree 10 = .ok (.ireturn, 1) := by decide +kernel
theorem dX8_tree_11 : decode cX8_tree 11 = .ok (.aload_n 0, 1) := by decide +kernel
theorem dX8_tree_12 : decode cX8_tree 12 = .ok (.iload_n 1, 1) := by decide +kernel
theorem dX8_tree_13 : decode cX8_tree 13 = .ok (.invokevirtual 352, 3) := by decide +kernel
theorem dX8_tree_16 : decode cX8_tree 16 = .ok (.aload_n 0, 1) := by decide +kernel
theorem dX8_tree_17 : decode cX8_tree 17 = .ok (.invokevirtual 370, 3) := by decide +kernel
theorem dX8_tree_20 : decode cX8_tree 20 = .ok (.ifCond .eq 7, 3) := by decide +kernel
theorem dX8_tree_23 : decode cX8_tree 23 = .ok (.iconst 1, 1) := by decide +kernel
theorem dX8_tree_24 : decode cX8_tree 24 = .ok (.goto 4, 3) := by decide +kernel
theorem dX8_tree_27 : decode cX8_tree 27 = .ok (.iconst 0, 1) := by decide +kernel
theorem dX8_tree_28 : decode cX8_tree 28 = .ok (.ireturn, 1) := by decide +kernel
theorem dX8_ring_0 : decode cX8_ring 0 = .ok (.aload_n 0, 1) := by decide +kernel
theorem dX8_ring_1 : decode cX8_ring 1 = .ok (.iload_n 1, 1) := by decide +kernel
theorem dX8_ring_2 : decode cX8_ring 2 = .ok (.invokevirtual 301, 3) := by decide +kernel
theorem dX8_ring_5 : decode cX8_ring 5 = .ok (.ifCond .ne 6, 3) := by decide +kernel
theorem dX8_ring_8 : decode cX8_ring 8 = .ok (.bipush (-2), 2) := by decide +kernel
theorem dX8_ring_10 : decode cX8_ring 10 = .ok (.ireturn, 1) := by decide +kernel
theorem dX8_ring_11 : decode cX8_ring 11 = .ok (.aload_n 0, 1) := by decide +kernel
theorem dX8_ring_12 : decode cX8_ring 12 = .ok (.iload_n 1, 1) := by decide +kernel
theorem dX8_ring_13 : decode cX8_ring 13 = .ok (.invokevirtual 352, 3) := by decide +kernel
theorem dX8_ring_16 : decode cX8_ring 16 = .ok (.iconst 0, 1) := by decide +kernel
theorem dX8_ring_17 : decode cX8_ring 17 = .ok (.istore_n 2, 1) := by decide +kernel
theorem dX8_ring_18 : decode cX8_ring 18 = .ok (.iconst 0, 1) := by decide +kernel
theorem dX8_ring_19 : decode cX8_ring 19 = .ok (.istore_n 3, 1) := by decide +kernel
theorem dX8_ring_20 : decode cX8_ring 20 = .ok (.iload_n 3, 1) := by decide +kernel
theorem dX8_ring_21 : decode cX8_ring 21 = .ok (.aload_n 0, 1) := by decide +kernel
theorem dX8_ring_22 : decode cX8_ring 22 = .ok (.invokevirtual 98, 3) := by decide +kernel
theorem dX8_ring_25 : decode cX8_ring 25 = .ok (.if_icmp .ge 65, 3) := by decide +kernel
theorem dX8_ring_28 : decode cX8_ring 28 = .ok (.iload_n 3, 1) := by decide +kernel
theorem dX8_ring_29 : decode cX8_ring 29 = .ok (.istore 4, 2) := by decide +kernel
theorem dX8_ring_31 : decode cX8_ring 31 = .ok (.iconst 0, 1) := by decide +kernel
theorem dX8_ring_32 : decode cX8_ring 32 = .ok (.istore 5, 2) := by decide +kernel
theorem dX8_ring_34 : decode cX8_ring 34 = .ok (.iload 5, 2) := by decide +kernel
theorem dX8_ring_36 : decode cX8_ring 36 = .ok (.bipush 7, 2) := by decide +kernel
theorem dX8_ring_38 : decode cX8_ring 38 = .ok (.if_icmp .ge 46, 3) := by decide +kernel
theorem dX8_ring_41 : decode cX8_ring 41 = .ok (.iload 4, 2) := by decide +kernel
theorem dX8_ring_43 : decode cX8_ring 43 = .ok (.i2l, 1) := by decide +kernel
theorem dX8_ring_44 : decode cX8_ring 44 = .ok (.lconst 0, 1) := by decide +kernel
theorem dX8_ring_45 : decode cX8_ring 45 = .ok (.ldc2_w 329, 3) := by decide +kernel
theorem dX8_ring_48 : decode cX8_ring 48 = .ok (.invokestatic 94, 3) := by decide +kernel
theorem dX8_ring_51 : decode cX8_ring 51 = .ok (.ifCond .eq 33, 3) := by decide +kernel
theorem dX8_ring_54 : decode cX8_ring 54 = .ok (.aload_n 0, 1) := by decide +kernel
theorem dX8_ring_55 : decode cX8_ring 55 = .ok (.iload 4, 2) := by decide +kernel
theorem dX8_ring_57 : decode cX8_ring 57 = .ok (.invokevirtual 364, 3) := by decide +kernel
theorem dX8_ring_60 : decode cX8_ring 60 = .ok (.istore 4, 2) := by decide +kernel
theorem dX8_ring_62 : decode cX8_ring 62 = .ok (.iload_n 2, 1) := by decide +kernel
theorem dX8_ring_63 : decode cX8_ring 63 = .ok (.iload 4, 2) := by decide +kernel
theorem dX8_ring_65 : decode cX8_ring 65 = .ok (.iload_n 3, 1) := by decide +kernel
theorem dX8_ring_66 : decode cX8_ring 66 = .ok (.if_icmp .ne 9, 3) := by decide +kernel
theorem dX8_ring_69 : decode cX8_ring 69 = .ok (.iconst 1, 1) := by decide +kernel
theorem dX8_ring_70 : decode cX8_ring 70 = .ok (.iload_n 3, 1) := by decide +kernel
theorem dX8_ring_71 : decode cX8_ring 71 = .ok (.ishl, 1) := by decide +kernel
theorem dX8_ring_72 : decode cX8_ring 72 = .ok (.goto 4, 3) := by decide +kernel
theorem dX8_ring_75 : decode cX8_ring 75 = .ok (.iconst 0, 1) := by decide +kernel
theorem dX8_ring_76 : decode cX8_ring 76 = .ok (.ior, 1) := by decide +kernel
theorem dX8_ring_77 : decode cX8_ring 77 = .ok (.istore_n 2, 1) := by decide +kernel
theorem dX8_ring_78 : decode cX8_ring 78 = .ok (.iinc 5 1, 3) := by decide +kernel
theorem dX8_ring_81 : decode cX8_ring 81 = .ok (.goto (-47), 3) := by decide +kernel
theorem dX8_ring_84 : decode cX8_ring 84 = .ok (.iinc 3 1, 3) := by decide +kernel
theorem dX8_ring_87 : decode cX8_ring 87 = .ok (.goto (-67), 3) := by decide +kernel
theorem dX8_ring_90 : decode cX8_ring 90 = .ok (.iload_n 2, 1) := by decide +kernel
theorem dX8_ring_91 : decode cX8_ring 91 = .ok (.ireturn, 1) := by decide +kernel
theorem dX8_trees_0 : decode cX8_trees 0 = .ok (.aload_n 0, 1) := by decide +kernel
theorem dX8_trees_1 : decode cX8_trees 1 = .ok (.invokevirtual 102, 3) := by decide +kernel
theorem dX8_trees_4 : decode cX8_trees 4 = .ok (.ifCond .ne 6, 3) := by decide +kernel
theorem dX8_trees_7 : decode cX8_trees 7 = .ok (.bipush (-2), 2) := by decide +kernel
theorem dX8_trees_9 : decode cX8_trees 9 = .ok (.ireturn, 1) := by decide +kernel
theorem dX8_trees_10 : decode cX8_trees 10 = .ok (.aload_n 0, 1) := by decide +kernel
theorem dX8_trees_11 : decode cX8_trees 11 = .ok (.invokevirtual 361, 3) := by decide +kernel
theorem dX8_trees_14 : decode cX8_trees 14 = .ok (.istore_n 1, 1) := by decide +kernel
theorem dX8_trees_15 : decode cX8_trees 15 = .ok (.iload_n 1, 1) := by decide +kernel
theorem dX8_trees_16 : decode cX8_trees 16 = .ok (.sipush 4096, 3) := by decide +kernel
theorem dX8_trees_19 : decode cX8_trees 19 = .ok (.if_icmp .le 6, 3) := by decide +kernel
theorem dX8_trees_22 : decode cX8_trees 22 = .ok (.bipush (-3), 2) := by decide +kernel
theorem dX8_trees_24 : decode cX8_trees 24 = .ok (.ireturn, 1) := by decide +kernel
theorem dX8_trees_25 : decode cX8_trees 25 = .ok (.iconst 0, 1) := by decide +kernel
theorem dX8_trees_26 : decode cX8_trees 26 = .ok (.istore_n 2, 1) := by decide +kernel
theorem dX8_trees_27 : decode cX8_trees 27 = .ok (.iconst 0, 1) := by decide +kernel
theorem dX8_trees_28 : decode cX8_trees 28 = .ok (.istore_n 3, 1) := by decide +kernel
theorem dX8_trees_29 : decode cX8_trees 29 = .ok (.iload_n 3, 1) := by decide +kernel
theorem dX8_trees_30 : decode cX8_trees 30 = .ok (.iload_n 1, 1) := by decide +kernel
theorem dX8_trees_31 : decode cX8_trees 31 = .ok (.if_icmp .ge 76, 3) := by decide +kernel
theorem dX8_trees_34 : decode cX8_trees 34 = .ok (.iload_n 3, 1) := by decide +kernel
theorem dX8_trees_35 : decode cX8_trees 35 = .ok (.istore 4, 2) := by decide +kernel
theorem dX8_trees_37 : decode cX8_trees 37 = .ok (.iconst 0, 1) := by decide +kernel
theorem dX8_trees_38 : decode cX8_trees 38 = .ok (.istore 5, 2) := by decide +kernel
theorem dX8_trees_40 : decode cX8_trees 40 = .ok (.iload 5, 2) := by decide +kernel
theorem dX8_trees_42 : decode cX8_trees 42 = .ok (.aload_n 0, 1) := by decide +kernel
theorem dX8_trees_43 : decode cX8_trees 43 = .ok (.invokevirtual 98, 3) := by decide +kernel
theorem dX8_trees_46 : decode cX8_trees 46 = .ok (.if_icmp .ge 40, 3) := by decide +kernel
theorem dX8_trees_49 : decode cX8_trees 49 = .ok (.iconst 1, 1) := by decide +kernel
theorem dX8_trees_50 : decode cX8_trees 50 = .ok (.aload_n 0, 1) := by decide +kernel
theorem dX8_trees_51 : decode cX8_trees 51 = .ok (.iload 5, 2) := by decide +kernel
theorem dX8_trees_53 : decode cX8_trees 53 = .ok (.invokevirtual 245, 3) := by decide +kernel
theorem dX8_trees_56 : decode cX8_trees 56 = .ok (.invokestatic 343, 3) := by decide +kernel
theorem dX8_trees_59 : decode cX8_trees 59 = .ok (.istore 6, 2) := by decide +kernel
theorem dX8_trees_61 : decode cX8_trees 61 = .ok (.aload_n 0, 1) := by decide +kernel
theorem dX8_trees_62 : decode cX8_trees 62 = .ok (.getfield 67, 3) := by decide +kernel
theorem dX8_trees_65 : decode cX8_trees 65 = .ok (.iload 5, 2) := by decide +kernel
theorem dX8_trees_67 : decode cX8_trees 67 = .ok (.iload 4, 2) := by decide +kernel
theorem dX8_trees_69 : decode cX8_trees 69 = .ok (.iload 6, 2) := by decide +kernel
theorem dX8_trees_71 : decode cX8_trees 71 = .ok (.irem, 1) := by decide +kernel
theorem dX8_trees_72 : decode cX8_trees 72 = .ok (.iastore, 1) := by decide +kernel
theorem dX8_trees_73 : decode cX8_trees 73 = .ok (.iload 4, 2) := by decide +kernel
theorem dX8_trees_75 : decode cX8_trees 75 = .ok (.iload 6, 2) := by decide +kernel
theorem dX8_trees_77 : decode cX8_trees 77 = .ok (.idiv, 1) := by decide +kernel
theorem dX8_trees_78 : decode cX8_trees 78 = .ok (.istore 4, 2) := by decide +kernel
theorem dX8_trees_80 : decode cX8_trees 80 = .ok (.iinc 5 1, 3) := by decide +kernel
theorem dX8_trees_83 : decode cX8_trees 83 = .ok (.goto (-43), 3) := by decide +kernel
theorem dX8_trees_86 : decode cX8_trees 86 = .ok (.iload_n 2, 1) := by decide +kernel
theorem dX8_trees_87 : decode cX8_trees 87 = .ok (.aload_n 0, 1) := by decide +kernel
theorem dX8_trees_88 : decode cX8_trees 88 = .ok (.invokevirtual 370, 3) := by decide +kernel
theorem dX8_trees_91 : decode cX8_trees 91 = .ok (.ifCond .eq 7, 3) := by decide +kernel
theorem dX8_trees_94 : decode cX8_trees 94 = .ok (.iconst 1, 1) := by decide +kernel
theorem dX8_trees_95 : decode cX8_trees 95 = .ok (.goto 4, 3) := by decide +kernel
theorem dX8_trees_98 : decode cX8_trees 98 = .ok (.iconst 0, 1) := by decide +kernel
theorem dX8_trees_99 : decode cX8_trees 99 = .ok (.iadd, 1) := by decide +kernel
theorem dX8_trees_100 : decode cX8_trees 100 = .ok (.istore_n 2, 1) := by decide +kernel
theorem dX8_trees_101 : decode cX8_trees 101 = .ok (.iinc 3 1, 3) := by decide +kernel
theorem dX8_trees_104 : decode cX8_trees 104 = .ok (.goto (-75), 3) := by decide +kernel
theorem dX8_trees_107 : decode cX8_trees 107 = .ok (.iload_n 2, 1) := by decide +kernel
theorem dX8_trees_108 : decode cX8_trees 108 = .ok (.ireturn, 1) := by decide +kernel
theorem dX8_soloBegin_0 : decode cX8_soloBegin 0 = .ok (.aload_n 0, 1) := by decide +kernel
theorem dX8_soloBegin_1 : decode cX8_soloBegin 1 = .ok (.invokevirtual 286, 3) := by decide +kernel
theorem dX8_soloBegin_4 : decode cX8_soloBegin 4 = .ok (.iconst 0, 1) := by decide +kernel
theorem dX8_soloBegin_5 : decode cX8_soloBegin 5 = .ok (.istore_n 1, 1) := by decide +kernel
theorem dX8_soloBegin_6 : decode cX8_soloBegin 6 = .ok (.iload_n 1, 1) := by decide +kernel
theorem dX8_soloBegin_7 : decode cX8_soloBegin 7 = .ok (.bipush 7, 2) := by decide +kernel
theorem dX8_soloBegin_9 : decode cX8_soloBegin 9 = .ok (.if_icmp .ge 20, 3) := by decide +kernel
theorem dX8_soloBegin_12 : decode cX8_soloBegin 12 = .ok (.aload_n 0, 1) := by decide +kernel
theorem dX8_soloBegin_13 : decode cX8_soloBegin 13 = .ok (.getfield 40, 3) := by decide +kernel
theorem dX8_soloBegin_16 : decode cX8_soloBegin 16 = .ok (.iload_n 1, 1) := by decide +kernel
theorem dX8_soloBegin_17 : decode cX8_soloBegin 17 = .ok (.aload_n 0, 1) := by decide +kernel
theorem dX8_soloBegin_18 : decode cX8_soloBegin 18 = .ok (.iload_n 1, 1) := by decide +kernel
theorem dX8_soloBegin_19 : decode cX8_soloBegin 19 = .ok (.invokevirtual 251, 3) := by decide +kernel
theorem dX8_soloBegin_22 : decode cX8_soloBegin 22 = .ok (.iastore, 1) := by decide +kernel
theorem dX8_soloBegin_23 : decode cX8_soloBegin 23 = .ok (.iinc 1 1, 3) := by decide +kernel
theorem dX8_soloBegin_26 : decode cX8_soloBegin 26 = .ok (.goto (-20), 3) := by decide +kernel
theorem dX8_soloBegin_29 : decode cX8_soloBegin 29 = .ok (.return_, 1) := by decide +kernel
theorem dX8_solo_0 : decode cX8_solo 0 = .ok (.iload_n 1, 1) := by decide +kernel
theorem dX8_solo_1 : decode cX8_solo 1 = .ok (.istore_n 2, 1) := by decide +kernel
theorem dX8_solo_2 : decode cX8_solo 2 = .ok (.aload_n 0, 1) := by decide +kernel
theorem dX8_solo_3 : decode cX8_solo 3 = .ok (.iconst 0, 1) := by decide +kernel
theorem dX8_solo_4 : decode cX8_solo 4 = .ok (.putfield 373, 3) := by decide +kernel
theorem dX8_solo_7 : decode cX8_solo 7 = .ok (.aload_n 0, 1) := by decide +kernel
theorem dX8_solo_8 : decode cX8_solo 8 = .ok (.getfield 373, 3) := by decide +kernel
theorem dX8_solo_11 : decode cX8_solo 11 = .ok (.sipush 600, 3) := by decide +kernel
theorem dX8_solo_14 : decode cX8_solo 14 = .ok (.if_icmp .ge 50, 3) := by decide +kernel
theorem dX8_solo_17 : decode cX8_solo 17 = .ok (.aload_n 0, 1) := by decide +kernel
theorem dX8_solo_18 : decode cX8_solo 18 = .ok (.iload_n 2, 1) := by decide +kernel
theorem dX8_solo_19 : decode cX8_solo 19 = .ok (.invokevirtual 245, 3) := by decide +kernel
theorem dX8_solo_22 : decode cX8_solo 22 = .ok (.ifCond .ne 5, 3) := by decide +kernel
theorem dX8_solo_25 : decode cX8_solo 25 = .ok (.iconst (-1), 1) := by decide +kernel
theorem dX8_solo_26 : decode cX8_solo 26 = .ok (.ireturn, 1) := by decide +kernel
theorem dX8_solo_27 : decode cX8_solo 27 = .ok (.aload_n 0, 1) := by decide +kernel
theorem dX8_solo_28 : decode cX8_solo 28 = .ok (.iload_n 2, 1) := by decide +kernel
theorem dX8_solo_29 : decode cX8_solo 29 = .ok (.aload_n 0, 1) := by decide +kernel
theorem dX8_solo_30 : decode cX8_solo 30 = .ok (.iload_n 2, 1) := by decide +kernel
theorem dX8_solo_31 : decode cX8_solo 31 = .ok (.invokevirtual 273, 3) := by decide +kernel
theorem dX8_solo_34 : decode cX8_solo 34 = .ok (.invokevirtual 248, 3) := by decide +kernel
theorem dX8_solo_37 : decode cX8_solo 37 = .ok (.istore_n 3, 1) := by decide +kernel
theorem dX8_solo_38 : decode cX8_solo 38 = .ok (.aload_n 0, 1) := by decide +kernel
theorem dX8_solo_39 : decode cX8_solo 39 = .ok (.dup, 1) := by decide +kernel
theorem dX8_solo_40 : decode cX8_solo 40 = .ok (.getfield 373, 3) := by decide +kernel
theorem dX8_solo_43 : decode cX8_solo 43 = .ok (.iconst 1, 1) := by decide +kernel
theorem dX8_solo_44 : decode cX8_solo 44 = .ok (.iadd, 1) := by decide +kernel
theorem dX8_solo_45 : decode cX8_solo 45 = .ok (.putfield 373, 3) := by decide +kernel
theorem dX8_solo_48 : decode cX8_solo 48 = .ok (.iload_n 3, 1) := by decide +kernel
theorem dX8_solo_49 : decode cX8_solo 49 = .ok (.bipush 10, 2) := by decide +kernel
theorem dX8_solo_51 : decode cX8_solo 51 = .ok (.if_icmp .lt 8, 3) := by decide +kernel
theorem dX8_solo_54 : decode cX8_solo 54 = .ok (.iload_n 3, 1) := by decide +kernel
theorem dX8_solo_55 : decode cX8_solo 55 = .ok (.bipush 10, 2) := by decide +kernel
theorem dX8_solo_57 : decode cX8_solo 57 = .ok (.isub, 1) := by decide +kernel
theorem dX8_solo_58 : decode cX8_solo 58 = .ok (.ireturn, 1) := by decide +kernel
theorem dX8_solo_59 : decode cX8_solo 59 = .ok (.iload_n 3, 1) := by decide +kernel
theorem dX8_solo_60 : decode cX8_solo 60 = .ok (.istore_n 2, 1) := by decide +kernel
theorem dX8_solo_61 : decode cX8_solo 61 = .ok (.goto (-54), 3) := by decide +kernel
theorem dX8_solo_64 : decode cX8_solo 64 = .ok (.iconst (-1), 1) := by decide +kernel
theorem dX8_solo_65 : decode cX8_solo 65 = .ok (.ireturn, 1) := by decide +kernel
theorem dX8_soloSetting_0 : decode cX8_soloSetting 0 = .ok (.iconst 0, 1) := by decide +kernel
theorem dX8_soloSetting_1 : decode cX8_soloSetting 1 = .ok (.istore_n 1, 1) := by decide +kernel
theorem dX8_soloSetting_2 : decode cX8_soloSetting 2 = .ok (.iload_n 1, 1) := by decide +kernel
theorem dX8_soloSetting_3 : decode cX8_soloSetting 3 = .ok (.bipush 7, 2) := by decide +kernel
theorem dX8_soloSetting_5 : decode cX8_soloSetting 5 = .ok (.if_icmp .ge 21, 3) := by decide +kernel
theorem dX8_soloSetting_8 : decode cX8_soloSetting 8 = .ok (.aload_n 0, 1) := by decide +kernel
theorem dX8_soloSetting_9 : decode cX8_soloSetting 9 = .ok (.getfield 67, 3) := by decide +kernel
theorem dX8_soloSetting_12 : decode cX8_soloSetting 12 = .ok (.iload_n 1, 1) := by decide +kernel
theorem dX8_soloSetting_13 : decode cX8_soloSetting 13 = .ok (.aload_n 0, 1) := by decide +kernel
theorem dX8_soloSetting_14 : decode cX8_soloSetting 14 = .ok (.getfield 40, 3) := by decide +kernel
theorem dX8_soloSetting_17 : decode cX8_soloSetting 17 = .ok (.iload_n 1, 1) := by decide +kernel
theorem dX8_soloSetting_18 : decode cX8_soloSetting 18 = .ok (.iaload, 1) := by decide +kernel
theorem dX8_soloSetting_19 : decode cX8_soloSetting 19 = .ok (.iastore, 1) := by decide +kernel
theorem dX8_soloSetting_20 : decode cX8_soloSetting 20 = .ok (.iinc 1 1, 3) := by decide +kernel
theorem dX8_soloSetting_23 : decode cX8_soloSetting 23 = .ok (.goto (-21), 3) := by decide +kernel
theorem dX8_soloSetting_26 : decode cX8_soloSetting 26 = .ok (.aload_n 0, 1) := by decide +kernel
theorem dX8_soloSetting_27 : decode cX8_soloSetting 27 = .ok (.invokevirtual 355, 3) := by decide +kernel
theorem dX8_soloSetting_30 : decode cX8_soloSetting 30 = .ok (.ireturn, 1) := by decide +kernel
theorem dX8_alone_0 : decode cX8_alone 0 = .ok (.aload_n 0, 1) := by decide +kernel
theorem dX8_alone_1 : decode cX8_alone 1 = .ok (.iload_n 1, 1) := by decide +kernel
theorem dX8_alone_2 : decode cX8_alone 2 = .ok (.i2l, 1) := by decide +kernel
theorem dX8_alone_3 : decode cX8_alone 3 = .ok (.invokevirtual 112, 3) := by decide +kernel
theorem dX8_alone_6 : decode cX8_alone 6 = .ok (.ifCond .ne 6, 3) := by decide +kernel
theorem dX8_alone_9 : decode cX8_alone 9 = .ok (.bipush (-2), 2) := by decide +kernel
theorem dX8_alone_11 : decode cX8_alone 11 = .ok (.ireturn, 1) := by decide +kernel
theorem dX8_alone_12 : decode cX8_alone 12 = .ok (.aload_n 0, 1) := by decide +kernel
theorem dX8_alone_13 : decode cX8_alone 13 = .ok (.invokevirtual 376, 3) := by decide +kernel
theorem dX8_alone_16 : decode cX8_alone 16 = .ok (.aload_n 0, 1) := by decide +kernel
theorem dX8_alone_17 : decode cX8_alone 17 = .ok (.iload_n 1, 1) := by decide +kernel
theorem dX8_alone_18 : decode cX8_alone 18 = .ok (.invokevirtual 379, 3) := by decide +kernel
theorem dX8_alone_21 : decode cX8_alone 21 = .ok (.ireturn, 1) := by decide +kernel
theorem dX8_steps_0 : decode cX8_steps 0 = .ok (.aload_n 0, 1) := by decide +kernel
theorem dX8_steps_1 : decode cX8_steps 1 = .ok (.iload_n 1, 1) := by decide +kernel
theorem dX8_steps_2 : decode cX8_steps 2 = .ok (.i2l, 1) := by decide +kernel
theorem dX8_steps_3 : decode cX8_steps 3 = .ok (.invokevirtual 112, 3) := by decide +kernel
theorem dX8_steps_6 : decode cX8_steps 6 = .ok (.ifCond .ne 6, 3) := by decide +kernel
theorem dX8_steps_9 : decode cX8_steps 9 = .ok (.bipush (-2), 2) := by decide +kernel
theorem dX8_steps_11 : decode cX8_steps 11 = .ok (.ireturn, 1) := by decide +kernel
theorem dX8_steps_12 : decode cX8_steps 12 = .ok (.aload_n 0, 1) := by decide +kernel
theorem dX8_steps_13 : decode cX8_steps 13 = .ok (.invokevirtual 376, 3) := by decide +kernel
theorem dX8_steps_16 : decode cX8_steps 16 = .ok (.aload_n 0, 1) := by decide +kernel
theorem dX8_steps_17 : decode cX8_steps 17 = .ok (.iload_n 1, 1) := by decide +kernel
theorem dX8_steps_18 : decode cX8_steps 18 = .ok (.invokevirtual 379, 3) := by decide +kernel
theorem dX8_steps_21 : decode cX8_steps 21 = .ok (.iconst (-1), 1) := by decide +kernel
theorem dX8_steps_22 : decode cX8_steps 22 = .ok (.if_icmp .ne 7, 3) := by decide +kernel
theorem dX8_steps_25 : decode cX8_steps 25 = .ok (.iconst (-1), 1) := by decide +kernel
theorem dX8_steps_26 : decode cX8_steps 26 = .ok (.goto 7, 3) := by decide +kernel
theorem dX8_steps_29 : decode cX8_steps 29 = .ok (.aload_n 0, 1) := by decide +kernel
theorem dX8_steps_30 : decode cX8_steps 30 = .ok (.getfield 373, 3) := by decide +kernel
theorem dX8_steps_33 : decode cX8_steps 33 = .ok (.ireturn, 1) := by decide +kernel
theorem dX8_behind_0 : decode cX8_behind 0 = .ok (.aload_n 0, 1) := by decide +kernel
theorem dX8_behind_1 : decode cX8_behind 1 = .ok (.iload_n 1, 1) := by decide +kernel
theorem dX8_behind_2 : decode cX8_behind 2 = .ok (.i2l, 1) := by decide +kernel
theorem dX8_behind_3 : decode cX8_behind 3 = .ok (.invokevirtual 112, 3) := by decide +kernel
theorem dX8_behind_6 : decode cX8_behind 6 = .ok (.ifCond .ne 6, 3) := by decide +kernel
theorem dX8_behind_9 : decode cX8_behind 9 = .ok (.bipush (-2), 2) := by decide +kernel
theorem dX8_behind_11 : decode cX8_behind 11 = .ok (.ireturn, 1) := by decide +kernel
theorem dX8_behind_12 : decode cX8_behind 12 = .ok (.aload_n 0, 1) := by decide +kernel
theorem dX8_behind_13 : decode cX8_behind 13 = .ok (.invokevirtual 376, 3) := by decide +kernel
theorem dX8_behind_16 : decode cX8_behind 16 = .ok (.aload_n 0, 1) := by decide +kernel
theorem dX8_behind_17 : decode cX8_behind 17 = .ok (.iload_n 1, 1) := by decide +kernel
theorem dX8_behind_18 : decode cX8_behind 18 = .ok (.invokevirtual 379, 3) := by decide +kernel
theorem dX8_behind_21 : decode cX8_behind 21 = .ok (.iconst (-1), 1) := by decide +kernel
theorem dX8_behind_22 : decode cX8_behind 22 = .ok (.if_icmp .ne 7, 3) := by decide +kernel
theorem dX8_behind_25 : decode cX8_behind 25 = .ok (.iconst (-1), 1) := by decide +kernel
theorem dX8_behind_26 : decode cX8_behind 26 = .ok (.goto 7, 3) := by decide +kernel
theorem dX8_behind_29 : decode cX8_behind 29 = .ok (.aload_n 0, 1) := by decide +kernel
theorem dX8_behind_30 : decode cX8_behind 30 = .ok (.invokevirtual 382, 3) := by decide +kernel
theorem dX8_behind_33 : decode cX8_behind 33 = .ok (.ireturn, 1) := by decide +kernel
theorem dX8_nth_0 : decode cX8_nth 0 = .ok (.aload_n 0, 1) := by decide +kernel
theorem dX8_nth_1 : decode cX8_nth 1 = .ok (.iload_n 1, 1) := by decide +kernel
theorem dX8_nth_2 : decode cX8_nth 2 = .ok (.i2l, 1) := by decide +kernel
theorem dX8_nth_3 : decode cX8_nth 3 = .ok (.invokevirtual 112, 3) := by decide +kernel
theorem dX8_nth_6 : decode cX8_nth 6 = .ok (.ifCond .eq 15, 3) := by decide +kernel
theorem dX8_nth_9 : decode cX8_nth 9 = .ok (.iload_n 2, 1) := by decide +kernel
theorem dX8_nth_10 : decode cX8_nth 10 = .ok (.i2l, 1) := by decide +kernel
theorem dX8_nth_11 : decode cX8_nth 11 = .ok (.lconst 1, 1) := by decide +kernel
theorem dX8_nth_12 : decode cX8_nth 12 = .ok (.ldc2_w 385, 3) := by decide +kernel
theorem dX8_nth_15 : decode cX8_nth 15 = .ok (.invokestatic 94, 3) := by decide +kernel
theorem dX8_nth_18 : decode cX8_nth 18 = .ok (.ifCond .ne 6, 3) := by decide +kernel
theorem dX8_nth_21 : decode cX8_nth 21 = .ok (.bipush (-2), 2) := by decide +kernel
theorem dX8_nth_23 : decode cX8_nth 23 = .ok (.ireturn, 1) := by decide +kernel
theorem dX8_nth_24 : decode cX8_nth 24 = .ok (.aload_n 0, 1) := by decide +kernel
theorem dX8_nth_25 : decode cX8_nth 25 = .ok (.invokevirtual 376, 3) := by decide +kernel
theorem dX8_nth_28 : decode cX8_nth 28 = .ok (.iconst 0, 1) := by decide +kernel
theorem dX8_nth_29 : decode cX8_nth 29 = .ok (.istore_n 3, 1) := by decide +kernel
theorem dX8_nth_30 : decode cX8_nth 30 = .ok (.iconst 0, 1) := by decide +kernel
theorem dX8_nth_31 : decode cX8_nth 31 = .ok (.istore 4, 2) := by decide +kernel
theorem dX8_nth_33 : decode cX8_nth 33 = .ok (.iload 4, 2) := by decide +kernel
theorem dX8_nth_35 : decode cX8_nth 35 = .ok (.iload_n 2, 1) := by decide +kernel
theorem dX8_nth_36 : decode cX8_nth 36 = .ok (.if_icmp .ge 20, 3) := by decide +kernel
theorem dX8_nth_39 : decode cX8_nth 39 = .ok (.iload_n 3, 1) := by decide +kernel
theorem dX8_nth_40 : decode cX8_nth 40 = .ok (.iconst (-1), 1) := by decide +kernel
theorem dX8_nth_41 : decode cX8_nth 41 = .ok (.if_icmp .eq 15, 3) := by decide +kernel
theorem dX8_nth_44 : decode cX8_nth 44 = .ok (.aload_n 0, 1) := by decide +kernel
theorem dX8_nth_45 : decode cX8_nth 45 = .ok (.iload_n 1, 1) := by decide +kernel
theorem dX8_nth_46 : decode cX8_nth 46 = .ok (.invokevirtual 379, 3) := by decide +kernel
theorem dX8_nth_49 : decode cX8_nth 49 = .ok (.istore_n 3, 1) := by decide +kernel
theorem dX8_nth_50 : decode cX8_nth 50 = .ok (.iinc 4 1, 3) := by decide +kernel
theorem dX8_nth_53 : decode cX8_nth 53 = .ok (.goto (-20), 3) := by decide +kernel
theorem dX8_nth_56 : decode cX8_nth 56 = .ok (.iload_n 3, 1) := by decide +kernel
theorem dX8_nth_57 : decode cX8_nth 57 = .ok (.ireturn, 1) := by decide +kernel
theorem dX8_round_0 : decode cX8_round 0 = .ok (.aload_n 0, 1) := by decide +kernel
theorem dX8_round_1 : decode cX8_round 1 = .ok (.iload_n 1, 1) := by decide +kernel
theorem dX8_round_2 : decode cX8_round 2 = .ok (.i2l, 1) := by decide +kernel
theorem dX8_round_3 : decode cX8_round 3 = .ok (.invokevirtual 112, 3) := by decide +kernel
theorem dX8_round_6 : decode cX8_round 6 = .ok (.ifCond .ne 6, 3) := by decide +kernel
theorem dX8_round_9 : decode cX8_round 9 = .ok (.bipush (-2), 2) := by decide +kernel
theorem dX8_round_11 : decode cX8_round 11 = .ok (.ireturn, 1) := by decide +kernel
theorem dX8_round_12 : decode cX8_round 12 = .ok (.aload_n 0, 1) := by decide +kernel
theorem dX8_round_13 : decode cX8_round 13 = .ok (.invokevirtual 376, 3) := by decide +kernel
theorem dX8_round_16 : decode cX8_round 16 = .ok (.aload_n 0, 1) := by decide +kernel
theorem dX8_round_17 : decode cX8_round 17 = .ok (.invokevirtual 382, 3) := by decide +kernel
theorem dX8_round_20 : decode cX8_round 20 = .ok (.istore_n 2, 1) := by decide +kernel
theorem dX8_round_21 : decode cX8_round 21 = .ok (.iconst 1, 1) := by decide +kernel
theorem dX8_round_22 : decode cX8_round 22 = .ok (.istore_n 3, 1) := by decide +kernel
theorem dX8_round_23 : decode cX8_round 23 = .ok (.iload_n 3, 1) := by decide +kernel
theorem dX8_round_24 : decode cX8_round 24 = .ok (.bipush 60, 2) := by decide +kernel
theorem dX8_round_26 : decode cX8_round 26 = .ok (.if_icmp .gt 30, 3) := by decide +kernel
theorem dX8_round_29 : decode cX8_round 29 = .ok (.aload_n 0, 1) := by decide +kernel
theorem dX8_round_30 : decode cX8_round 30 = .ok (.iload_n 1, 1) := by decide +kernel
theorem dX8_round_31 : decode cX8_round 31 = .ok (.invokevirtual 379, 3) := by decide +kernel
theorem dX8_round_34 : decode cX8_round 34 = .ok (.iconst (-1), 1) := by decide +kernel
theorem dX8_round_35 : decode cX8_round 35 = .ok (.if_icmp .ne 5, 3) := by decide +kernel
theorem dX8_round_38 : decode cX8_round 38 = .ok (.iconst (-1), 1) := by decide +kernel
theorem dX8_round_39 : decode cX8_round 39 = .ok (.ireturn, 1) := by decide +kernel
theorem dX8_round_40 : decode cX8_round 40 = .ok (.aload_n 0, 1) := by decide +kernel
theorem dX8_round_41 : decode cX8_round 41 = .ok (.invokevirtual 382, 3) := by decide +kernel
theorem dX8_round_44 : decode cX8_round 44 = .ok (.iload_n 2, 1) := by decide +kernel
theorem dX8_round_45 : decode cX8_round 45 = .ok (.if_icmp .ne 5, 3) := by decide +kernel
theorem dX8_round_48 : decode cX8_round 48 = .ok (.iload_n 3, 1) := by decide +kernel
theorem dX8_round_49 : decode cX8_round 49 = .ok (.ireturn, 1) := by decide +kernel
theorem dX8_round_50 : decode cX8_round 50 = .ok (.iinc 3 1, 3) := by decide +kernel
theorem dX8_round_53 : decode cX8_round 53 = .ok (.goto (-30), 3) := by decide +kernel
theorem dX8_round_56 : decode cX8_round 56 = .ok (.iconst (-1), 1) := by decide +kernel
theorem dX8_round_57 : decode cX8_round 57 = .ok (.ireturn, 1) := by decide +kernel
theorem dX8_houses_0 : decode cX8_houses 0 = .ok (.aload_n 0, 1) := by decide +kernel
theorem dX8_houses_1 : decode cX8_houses 1 = .ok (.iload_n 1, 1) := by decide +kernel
theorem dX8_houses_2 : decode cX8_houses 2 = .ok (.i2l, 1) := by decide +kernel
theorem dX8_houses_3 : decode cX8_houses 3 = .ok (.invokevirtual 112, 3) := by decide +kernel
theorem dX8_houses_6 : decode cX8_houses 6 = .ok (.ifCond .eq 24, 3) := by decide +kernel
theorem dX8_houses_9 : decode cX8_houses 9 = .ok (.iload_n 2, 1) := by decide +kernel
theorem dX8_houses_10 : decode cX8_houses 10 = .ok (.i2l, 1) := by decide +kernel
theorem dX8_houses_11 : decode cX8_houses 11 = .ok (.lconst 1, 1) := by decide +kernel
theorem dX8_houses_12 : decode cX8_houses 12 = .ok (.ldc2_w 385, 3) := by decide +kernel
theorem dX8_houses_15 : decode cX8_houses 15 = .ok (.invokestatic 94, 3) := by decide +kernel
theorem dX8_houses_18 : decode cX8_houses 18 = .ok (.ifCond .eq 12, 3) := by decide +kernel
theorem dX8_houses_21 : decode cX8_houses 21 = .ok (.aload_n 0, 1) := by decide +kernel
theorem dX8_houses_22 : decode cX8_houses 22 = .ok (.iload_n 3, 1) := by decide +kernel
theorem dX8_houses_23 : decode cX8_houses 23 = .ok (.i2l, 1) := by decide +kernel
theorem dX8_houses_24 : decode cX8_houses 24 = .ok (.invokevirtual 118, 3) := by decide +kernel
theorem dX8_houses_27 : decode cX8_houses 27 = .ok (.ifCond .ne 6, 3) := by decide +kernel
theorem dX8_houses_30 : decode cX8_houses 30 = .ok (.bipush (-2), 2) := by decide +kernel
theorem dX8_houses_32 : decode cX8_houses 32 = .ok (.ireturn, 1) := by decide +kernel
theorem dX8_houses_33 : decode cX8_houses 33 = .ok (.aload_n 0, 1) := by decide +kernel
theorem dX8_houses_34 : decode cX8_houses 34 = .ok (.invokevirtual 376, 3) := by decide +kernel
theorem dX8_houses_37 : decode cX8_houses 37 = .ok (.iconst 0, 1) := by decide +kernel
theorem dX8_houses_38 : decode cX8_houses 38 = .ok (.istore 4, 2) := by decide +kernel
theorem dX8_houses_40 : decode cX8_houses 40 = .ok (.iconst 0, 1) := by decide +kernel
theorem dX8_houses_41 : decode cX8_houses 41 = .ok (.istore 5, 2) := by decide +kernel
theorem dX8_houses_43 : decode cX8_houses 43 = .ok (.iload 5, 2) := by decide +kernel
theorem dX8_houses_45 : decode cX8_houses 45 = .ok (.iload_n 2, 1) := by decide +kernel
theorem dX8_houses_46 : decode cX8_houses 46 = .ok (.if_icmp .ge 40, 3) := by decide +kernel
theorem dX8_houses_49 : decode cX8_houses 49 = .ok (.aload_n 0, 1) := by decide +kernel
theorem dX8_houses_50 : decode cX8_houses 50 = .ok (.iload_n 1, 1) := by decide +kernel
theorem dX8_houses_51 : decode cX8_houses 51 = .ok (.invokevirtual 379, 3) := by decide +kernel
theorem dX8_houses_54 : decode cX8_houses 54 = .ok (.istore 6, 2) := by decide +kernel
theorem dX8_houses_56 : decode cX8_houses 56 = .ok (.iload 6, 2) := by decide +kernel
theorem dX8_houses_58 : decode cX8_houses 58 = .ok (.iconst (-1), 1) := by decide +kernel
theorem dX8_houses_59 : decode cX8_houses 59 = .ok (.if_icmp .ne 5, 3) := by decide +kernel
theorem dX8_houses_62 : decode cX8_houses 62 = .ok (.iconst (-1), 1) := by decide +kernel
theorem dX8_houses_63 : decode cX8_houses 63 = .ok (.ireturn, 1) := by decide +kernel
theorem dX8_houses_64 : decode cX8_houses 64 = .ok (.iload 4, 2) := by decide +kernel
theorem dX8_houses_66 : decode cX8_houses 66 = .ok (.iload 6, 2) := by decide +kernel
theorem dX8_houses_68 : decode cX8_houses 68 = .ok (.iload_n 3, 1) := by decide +kernel
theorem dX8_houses_69 : decode cX8_houses 69 = .ok (.if_icmp .ne 7, 3) := by decide +kernel
theorem dX8_houses_72 : decode cX8_houses 72 = .ok (.iconst 1, 1) := by decide +kernel
theorem dX8_houses_73 : decode cX8_houses 73 = .ok (.goto 4, 3) := by decide +kernel
theorem dX8_houses_76 : decode cX8_houses 76 = .ok (.iconst 0, 1) := by decide +kernel
theorem dX8_houses_77 : decode cX8_houses 77 = .ok (.iadd, 1) := by decide +kernel
theorem dX8_houses_78 : decode cX8_houses 78 = .ok (.istore 4, 2) := by decide +kernel
theorem dX8_houses_80 : decode cX8_houses 80 = .ok (.iinc 5 1, 3) := by decide +kernel
theorem dX8_houses_83 : decode cX8_houses 83 = .ok (.goto (-40), 3) := by decide +kernel
theorem dX8_houses_86 : decode cX8_houses 86 = .ok (.iload 4, 2) := by decide +kernel
theorem dX8_houses_88 : decode cX8_houses 88 = .ok (.ireturn, 1) := by decide +kernel
theorem dX8_cameTo_0 : decode cX8_cameTo 0 = .ok (.iconst 0, 1) := by decide +kernel
theorem dX8_cameTo_1 : decode cX8_cameTo 1 = .ok (.istore_n 3, 1) := by decide +kernel
theorem dX8_cameTo_2 : decode cX8_cameTo 2 = .ok (.iload_n 3, 1) := by decide +kernel
theorem dX8_cameTo_3 : decode cX8_cameTo 3 = .ok (.aload_n 0, 1) := by decide +kernel
theorem dX8_cameTo_4 : decode cX8_cameTo 4 = .ok (.invokevirtual 106, 3) := by decide +kernel
theorem dX8_cameTo_7 : decode cX8_cameTo 7 = .ok (.if_icmp .gt 24, 3) := by decide +kernel
theorem dX8_cameTo_10 : decode cX8_cameTo 10 = .ok (.aload_n 0, 1) := by decide +kernel
theorem dX8_cameTo_11 : decode cX8_cameTo 11 = .ok (.iload_n 1, 1) := by decide +kernel
theorem dX8_cameTo_12 : decode cX8_cameTo 12 = .ok (.iload_n 3, 1) := by decide +kernel
theorem dX8_cameTo_13 : decode cX8_cameTo 13 = .ok (.invokevirtual 298, 3) := by decide +kernel
theorem dX8_cameTo_16 : decode cX8_cameTo 16 = .ok (.bipush 10, 2) := by decide +kernel
theorem dX8_cameTo_18 : decode cX8_cameTo 18 = .ok (.iload_n 2, 1) := by decide +kernel
theorem dX8_cameTo_19 : decode cX8_cameTo 19 = .ok (.iadd, 1) := by decide +kernel
theorem dX8_cameTo_20 : decode cX8_cameTo 20 = .ok (.if_icmp .ne 5, 3) := by decide +kernel
theorem dX8_cameTo_23 : decode cX8_cameTo 23 = .ok (.iload_n 3, 1) := by decide +kernel
theorem dX8_cameTo_24 : decode cX8_cameTo 24 = .ok (.ireturn, 1) := by decide +kernel
theorem dX8_cameTo_25 : decode cX8_cameTo 25 = .ok (.iinc 3 1, 3) := by decide +kernel
theorem dX8_cameTo_28 : decode cX8_cameTo 28 = .ok (.goto (-26), 3) := by decide +kernel
theorem dX8_cameTo_31 : decode cX8_cameTo 31 = .ok (.ldc_w 387, 3) := by decide +kernel
theorem dX8_cameTo_34 : decode cX8_cameTo 34 = .ok (.ireturn, 1) := by decide +kernel
theorem dX8_point_0 : decode cX8_point 0 = .ok (.aload_n 0, 1) := by decide +kernel
theorem dX8_point_1 : decode cX8_point 1 = .ok (.iload_n 1, 1) := by decide +kernel
theorem dX8_point_2 : decode cX8_point 2 = .ok (.invokevirtual 320, 3) := by decide +kernel
theorem dX8_point_5 : decode cX8_point 5 = .ok (.ifCond .eq 12, 3) := by decide +kernel
theorem dX8_point_8 : decode cX8_point 8 = .ok (.aload_n 0, 1) := by decide +kernel
theorem dX8_point_9 : decode cX8_point 9 = .ok (.iload_n 2, 1) := by decide +kernel
theorem dX8_point_10 : decode cX8_point 10 = .ok (.i2l, 1) := by decide +kernel
theorem dX8_point_11 : decode cX8_point 11 = .ok (.invokevirtual 118, 3) := by decide +kernel
theorem dX8_point_14 : decode cX8_point 14 = .ok (.ifCond .ne 6, 3) := by decide +kernel
theorem dX8_point_17 : decode cX8_point 17 = .ok (.bipush (-2), 2) := by decide +kernel
theorem dX8_point_19 : decode cX8_point 19 = .ok (.ireturn, 1) := by decide +kernel
theorem dX8_point_20 : decode cX8_point 20 = .ok (.aload_n 0, 1) := by decide +kernel
theorem dX8_point_21 : decode cX8_point 21 = .ok (.iload_n 1, 1) := by decide +kernel
theorem dX8_point_22 : decode cX8_point 22 = .ok (.iload_n 2, 1) := by decide +kernel
theorem dX8_point_23 : decode cX8_point 23 = .ok (.invokevirtual 388, 3) := by decide +kernel
theorem dX8_point_26 : decode cX8_point 26 = .ok (.istore_n 3, 1) := by decide +kernel
theorem dX8_point_27 : decode cX8_point 27 = .ok (.iconst (-1), 1) := by decide +kernel
theorem dX8_point_28 : decode cX8_point 28 = .ok (.istore 4, 2) := by decide +kernel
theorem dX8_point_30 : decode cX8_point 30 = .ok (.iconst 0, 1) := by decide +kernel
theorem dX8_point_31 : decode cX8_point 31 = .ok (.istore 5, 2) := by decide +kernel
theorem dX8_point_33 : decode cX8_point 33 = .ok (.iload 5, 2) := by decide +kernel
theorem dX8_point_35 : decode cX8_point 35 = .ok (.aload_n 0, 1) := by decide +kernel
theorem dX8_point_36 : decode cX8_point 36 = .ok (.invokevirtual 98, 3) := by decide +kernel
theorem dX8_point_39 : decode cX8_point 39 = .ok (.if_icmp .ge 85, 3) := by decide +kernel
theorem dX8_point_42 : decode cX8_point 42 = .ok (.iconst 0, 1) := by decide +kernel
theorem dX8_point_43 : decode cX8_point 43 = .ok (.istore 6, 2) := by decide +kernel
theorem dX8_point_45 : decode cX8_point 45 = .ok (.iload 6, 2) := by decide +kernel
theorem dX8_point_47 : decode cX8_point 47 = .ok (.aload_n 0, 1) := by decide +kernel
theorem dX8_point_48 : decode cX8_point 48 = .ok (.iload 5, 2) := by decide +kernel
theorem dX8_point_50 : decode cX8_point 50 = .ok (.invokevirtual 245, 3) := by decide +kernel
theorem dX8_point_53 : decode cX8_point 53 = .ok (.if_icmp .ge 52, 3) := by decide +kernel
theorem dX8_point_56 : decode cX8_point 56 = .ok (.aload_n 0, 1) := by decide +kernel
theorem dX8_point_57 : decode cX8_point 57 = .ok (.getfield 34, 3) := by decide +kernel
theorem dX8_point_60 : decode cX8_point 60 = .ok (.iload 5, 2) := by decide +kernel
theorem dX8_point_62 : decode cX8_point 62 = .ok (.iload 6, 2) := by decide +kernel
theorem dX8_point_64 : decode cX8_point 64 = .ok (.iastore, 1) := by decide +kernel
theorem dX8_point_65 : decode cX8_point 65 = .ok (.aload_n 0, 1) := by decide +kernel
theorem dX8_point_66 : decode cX8_point 66 = .ok (.invokevirtual 289, 3) := by decide +kernel
theorem dX8_point_69 : decode cX8_point 69 = .ok (.aload_n 0, 1) := by decide +kernel
theorem dX8_point_70 : decode cX8_point 70 = .ok (.iload_n 1, 1) := by decide +kernel
theorem dX8_point_71 : decode cX8_point 71 = .ok (.iload_n 2, 1) := by decide +kernel
theorem dX8_point_72 : decode cX8_point 72 = .ok (.invokevirtual 388, 3) := by decide +kernel
theorem dX8_point_75 : decode cX8_point 75 = .ok (.iload_n 3, 1) := by decide +kernel
theorem dX8_point_76 : decode cX8_point 76 = .ok (.if_icmp .lt 6, 3) := by decide +kernel
theorem dX8_point_79 : decode cX8_point 79 = .ok (.goto 20, 3) := by decide +kernel
theorem dX8_point_82 : decode cX8_point 82 = .ok (.aload_n 0, 1) := by decide +kernel
theorem dX8_point_83 : decode cX8_point 83 = .ok (.iload_n 1, 1) := by decide +kernel
theorem dX8_point_84 : decode cX8_point 84 = .ok (.iload_n 2, 1) := by decide +kernel
theorem dX8_point_85 : decode cX8_point 85 = .ok (.invokevirtual 388, 3) := by decide +kernel
theorem dX8_point_88 : decode cX8_point 88 = .ok (.istore_n 3, 1) := by decide +kernel
theorem dX8_point_89 : decode cX8_point 89 = .ok (.bipush 10, 2) := by decide +kernel
theorem dX8_point_91 : decode cX8_point 91 = .ok (.iload 5, 2) := by decide +kernel
theorem dX8_point_93 : decode cX8_point 93 = .ok (.imul, 1) := by decide +kernel
theorem dX8_point_94 : decode cX8_point 94 = .ok (.iload 6, 2) := by decide +kernel
theorem dX8_point_96 : decode cX8_point 96 = .ok (.iadd, 1) := by decide +kernel
theorem dX8_point_97 : decode cX8_point 97 = .ok (.istore 4, 2) := by decide +kernel
theorem dX8_point_99 : decode cX8_point 99 = .ok (.iinc 6 1, 3) := by decide +kernel
theorem dX8_point_102 : decode cX8_point 102 = .ok (.goto (-57), 3) := by decide +kernel
theorem dX8_point_105 : decode cX8_point 105 = .ok (.aload_n 0, 1) := by decide +kernel
theorem dX8_point_106 : decode cX8_point 106 = .ok (.getfield 34, 3) := by decide +kernel
theorem dX8_point_109 : decode cX8_point 109 = .ok (.iload 5, 2) := by decide +kernel
theorem dX8_point_111 : decode cX8_point 111 = .ok (.aload_n 0, 1) := by decide +kernel
theorem dX8_point_112 : decode cX8_point 112 = .ok (.iload 5, 2) := by decide +kernel
theorem dX8_point_114 : decode cX8_point 114 = .ok (.invokevirtual 251, 3) := by decide +kernel
theorem dX8_point_117 : decode cX8_point 117 = .ok (.iastore, 1) := by decide +kernel
theorem dX8_point_118 : decode cX8_point 118 = .ok (.iinc 5 1, 3) := by decide +kernel
theorem dX8_point_121 : decode cX8_point 121 = .ok (.goto (-88), 3) := by decide +kernel
theorem dX8_point_124 : decode cX8_point 124 = .ok (.iload 4, 2) := by decide +kernel
theorem dX8_point_126 : decode cX8_point 126 = .ok (.ireturn, 1) := by decide +kernel
theorem dX8_best_0 : decode cX8_best 0 = .ok (.aload_n 0, 1) := by decide +kernel
theorem dX8_best_1 : decode cX8_best 1 = .ok (.invokevirtual 292, 3) := by decide +kernel
theorem dX8_best_4 : decode cX8_best 4 = .ok (.ifCond .ne 6, 3) := by decide +kernel
theorem dX8_best_7 : decode cX8_best 7 = .ok (.bipush (-2), 2) := by decide +kernel
theorem dX8_best_9 : decode cX8_best 9 = .ok (.ireturn, 1) := by decide +kernel
theorem dX8_best_10 : decode cX8_best 10 = .ok (.aload_n 0, 1) := by decide +kernel
theorem dX8_best_11 : decode cX8_best 11 = .ok (.invokevirtual 391, 3) := by decide +kernel
theorem dX8_best_14 : decode cX8_best 14 = .ok (.invokestatic 334, 3) := by decide +kernel
theorem dX8_best_17 : decode cX8_best 17 = .ok (.istore_n 1, 1) := by decide +kernel
theorem dX8_best_18 : decode cX8_best 18 = .ok (.iconst (-1), 1) := by decide +kernel
theorem dX8_best_19 : decode cX8_best 19 = .ok (.istore_n 2, 1) := by decide +kernel
theorem dX8_best_20 : decode cX8_best 20 = .ok (.iconst 0, 1) := by decide +kernel
theorem dX8_best_21 : decode cX8_best 21 = .ok (.istore_n 3, 1) := by decide +kernel
theorem dX8_best_22 : decode cX8_best 22 = .ok (.iload_n 3, 1) := by decide +kernel
theorem dX8_best_23 : decode cX8_best 23 = .ok (.aload_n 0, 1) := by decide +kernel
theorem dX8_best_24 : decode cX8_best 24 = .ok (.invokevirtual 98, 3) := by decide +kernel
theorem dX8_best_27 : decode cX8_best 27 = .ok (.if_icmp .ge 81, 3) := by decide +kernel
theorem dX8_best_30 : decode cX8_best 30 = .ok (.iconst 0, 1) := by decide +kernel
theorem dX8_best_31 : decode cX8_best 31 = .ok (.istore 4, 2) := by decide +kernel
theorem dX8_best_33 : decode cX8_best 33 = .ok (.iload 4, 2) := by decide +kernel
theorem dX8_best_35 : decode cX8_best 35 = .ok (.aload_n 0, 1) := by decide +kernel
theorem dX8_best_36 : decode cX8_best 36 = .ok (.iload_n 3, 1) := by decide +kernel
theorem dX8_best_37 : decode cX8_best 37 = .ok (.invokevirtual 245, 3) := by decide +kernel
theorem dX8_best_40 : decode cX8_best 40 = .ok (.if_icmp .ge 51, 3) := by decide +kernel
theorem dX8_best_43 : decode cX8_best 43 = .ok (.aload_n 0, 1) := by decide +kernel
theorem dX8_best_44 : decode cX8_best 44 = .ok (.getfield 34, 3) := by decide +kernel
theorem dX8_best_47 : decode cX8_best 47 = .ok (.iload_n 3, 1) := by decide +kernel
theorem dX8_best_48 : decode cX8_best 48 = .ok (.iload 4, 2) := by decide +kernel
theorem dX8_best_50 : decode cX8_best 50 = .ok (.iastore, 1) := by decide +kernel
theorem dX8_best_51 : decode cX8_best 51 = .ok (.aload_n 0, 1) := by decide +kernel
theorem dX8_best_52 : decode cX8_best 52 = .ok (.invokevirtual 289, 3) := by decide +kernel
theorem dX8_best_55 : decode cX8_best 55 = .ok (.aload_n 0, 1) := by decide +kernel
theorem dX8_best_56 : decode cX8_best 56 = .ok (.invokevirtual 391, 3) := by decide +kernel
theorem dX8_best_59 : decode cX8_best 59 = .ok (.invokestatic 334, 3) := by decide +kernel
theorem dX8_best_62 : decode cX8_best 62 = .ok (.iload_n 1, 1) := by decide +kernel
theorem dX8_best_63 : decode cX8_best 63 = .ok (.if_icmp .gt 6, 3) := by decide +kernel
theorem dX8_best_66 : decode cX8_best 66 = .ok (.goto 19, 3) := by decide +kernel
theorem dX8_best_69 : decode cX8_best 69 = .ok (.aload_n 0, 1) := by decide +kernel
theorem dX8_best_70 : decode cX8_best 70 = .ok (.invokevirtual 391, 3) := by decide +kernel
theorem dX8_best_73 : decode cX8_best 73 = .ok (.invokestatic 334, 3) := by decide +kernel
theorem dX8_best_76 : decode cX8_best 76 = .ok (.istore_n 1, 1) := by decide +kernel
theorem dX8_best_77 : decode cX8_best 77 = .ok (.bipush 10, 2) := by decide +kernel
theorem dX8_best_79 : decode cX8_best 79 = .ok (.iload_n 3, 1) := by decide +kernel
theorem dX8_best_80 : decode cX8_best 80 = .ok (.imul, 1) := by decide +kernel
theorem dX8_best_81 : decode cX8_best 81 = .ok (.iload 4, 2) := by decide +kernel
theorem dX8_best_83 : decode cX8_best 83 = .ok (.iadd, 1) := by decide +kernel
theorem dX8_best_84 : decode cX8_best 84 = .ok (.istore_n 2, 1) := by decide +kernel
theorem dX8_best_85 : decode cX8_best 85 = .ok (.iinc 4 1, 3) := by decide +kernel
theorem dX8_best_88 : decode cX8_best 88 = .ok (.goto (-55), 3) := by decide +kernel
theorem dX8_best_91 : decode cX8_best 91 = .ok (.aload_n 0, 1) := by decide +kernel
theorem dX8_best_92 : decode cX8_best 92 = .ok (.getfield 34, 3) := by decide +kernel
theorem dX8_best_95 : decode cX8_best 95 = .ok (.iload_n 3, 1) := by decide +kernel
theorem dX8_best_96 : decode cX8_best 96 = .ok (.aload_n 0, 1) := by decide +kernel
theorem dX8_best_97 : decode cX8_best 97 = .ok (.iload_n 3, 1) := by decide +kernel
theorem dX8_best_98 : decode cX8_best 98 = .ok (.invokevirtual 251, 3) := by decide +kernel
theorem dX8_best_101 : decode cX8_best 101 = .ok (.iastore, 1) := by decide +kernel
theorem dX8_best_102 : decode cX8_best 102 = .ok (.iinc 3 1, 3) := by decide +kernel
theorem dX8_best_105 : decode cX8_best 105 = .ok (.goto (-83), 3) := by decide +kernel
theorem dX8_best_108 : decode cX8_best 108 = .ok (.iload_n 2, 1) := by decide +kernel
theorem dX8_best_109 : decode cX8_best 109 = .ok (.ireturn, 1) := by decide +kernel
theorem dX8_crowds_0 : decode cX8_crowds 0 = .ok (.aload_n 0, 1) := by decide +kernel
theorem dX8_crowds_1 : decode cX8_crowds 1 = .ok (.invokevirtual 292, 3) := by decide +kernel
theorem dX8_crowds_4 : decode cX8_crowds 4 = .ok (.ifCond .ne 6, 3) := by decide +kernel
theorem dX8_crowds_7 : decode cX8_crowds 7 = .ok (.bipush (-2), 2) := by decide +kernel
theorem dX8_crowds_9 : decode cX8_crowds 9 = .ok (.ireturn, 1) := by decide +kernel
theorem dX8_crowds_10 : decode cX8_crowds 10 = .ok (.aload_n 0, 1) := by decide +kernel
theorem dX8_crowds_11 : decode cX8_crowds 11 = .ok (.invokevirtual 391, 3) := by decide +kernel
theorem dX8_crowds_14 : decode cX8_crowds 14 = .ok (.istore_n 1, 1) := by decide +kernel
theorem dX8_crowds_15 : decode cX8_crowds 15 = .ok (.iconst (-1), 1) := by decide +kernel
theorem dX8_crowds_16 : decode cX8_crowds 16 = .ok (.istore_n 2, 1) := by decide +kernel
theorem dX8_crowds_17 : decode cX8_crowds 17 = .ok (.iconst (-1), 1) := by decide +kernel
theorem dX8_crowds_18 : decode cX8_crowds 18 = .ok (.istore_n 3, 1) := by decide +kernel
theorem dX8_crowds_19 : decode cX8_crowds 19 = .ok (.iconst 0, 1) := by decide +kernel
theorem dX8_crowds_20 : decode cX8_crowds 20 = .ok (.istore 4, 2) := by decide +kernel
theorem dX8_crowds_22 : decode cX8_crowds 22 = .ok (.iload 4, 2) := by decide +kernel
theorem dX8_crowds_24 : decode cX8_crowds 24 = .ok (.aload_n 0, 1) := by decide +kernel
theorem dX8_crowds_25 : decode cX8_crowds 25 = .ok (.invokevirtual 109, 3) := by decide +kernel
theorem dX8_crowds_28 : decode cX8_crowds 28 = .ok (.if_icmp .ge 84, 3) := by decide +kernel
theorem dX8_crowds_31 : decode cX8_crowds 31 = .ok (.aload_n 0, 1) := by decide +kernel
theorem dX8_crowds_32 : decode cX8_crowds 32 = .ok (.getfield 37, 3) := by decide +kernel
theorem dX8_crowds_35 : decode cX8_crowds 35 = .ok (.iload 4, 2) := by decide +kernel
theorem dX8_crowds_37 : decode cX8_crowds 37 = .ok (.ldc_w 387, 3) := by decide +kernel
theorem dX8_crowds_40 : decode cX8_crowds 40 = .ok (.iastore, 1) := by decide +kernel
theorem dX8_crowds_41 : decode cX8_crowds 41 = .ok (.aload_n 0, 1) := by decide +kernel
theorem dX8_crowds_42 : decode cX8_crowds 42 = .ok (.invokevirtual 289, 3) := by decide +kernel
theorem dX8_crowds_45 : decode cX8_crowds 45 = .ok (.aload_n 0, 1) := by decide +kernel
theorem dX8_crowds_46 : decode cX8_crowds 46 = .ok (.getfield 37, 3) := by decide +kernel
theorem dX8_crowds_49 : decode cX8_crowds 49 = .ok (.iload 4, 2) := by decide +kernel
theorem dX8_crowds_51 : decode cX8_crowds 51 = .ok (.aload_n 0, 1) := by decide +kernel
theorem dX8_crowds_52 : decode cX8_crowds 52 = .ok (.getfield 9, 3) := by decide +kernel
theorem dX8_crowds_55 : decode cX8_crowds 55 = .ok (.bipush 56, 2) := by decide +kernel
theorem dX8_crowds_57 : decode cX8_crowds 57 = .ok (.iconst 2, 1) := by decide +kernel
theorem dX8_crowds_58 : decode cX8_crowds 58 = .ok (.iload 4, 2) := by decide +kernel
theorem dX8_crowds_60 : decode cX8_crowds 60 = .ok (.imul, 1) := by decide +kernel
theorem dX8_crowds_61 : decode cX8_crowds 61 = .ok (.iadd, 1) := by decide +kernel
theorem dX8_crowds_62 : decode cX8_crowds 62 = .ok (.iconst 1, 1) := by decide +kernel
theorem dX8_crowds_63 : decode cX8_crowds 63 = .ok (.iadd, 1) := by decide +kernel
theorem dX8_crowds_64 : decode cX8_crowds 64 = .ok (.iaload, 1) := by decide +kernel
theorem dX8_crowds_65 : decode cX8_crowds 65 = .ok (.iastore, 1) := by decide +kernel
theorem dX8_crowds_66 : decode cX8_crowds 66 = .ok (.aload_n 0, 1) := by decide +kernel
theorem dX8_crowds_67 : decode cX8_crowds 67 = .ok (.invokevirtual 391, 3) := by decide +kernel
theorem dX8_crowds_70 : decode cX8_crowds 70 = .ok (.invokestatic 334, 3) := by decide +kernel
theorem dX8_crowds_73 : decode cX8_crowds 73 = .ok (.istore 5, 2) := by decide +kernel
theorem dX8_crowds_75 : decode cX8_crowds 75 = .ok (.iload 5, 2) := by decide +kernel
theorem dX8_crowds_77 : decode cX8_crowds 77 = .ok (.iload_n 1, 1) := by decide +kernel
theorem dX8_crowds_78 : decode cX8_crowds 78 = .ok (.iconst 1, 1) := by decide +kernel
theorem dX8_crowds_79 : decode cX8_crowds 79 = .ok (.iload 4, 2) := by decide +kernel
theorem dX8_crowds_81 : decode cX8_crowds 81 = .ok (.ishl, 1) := by decide +kernel
theorem dX8_crowds_82 : decode cX8_crowds 82 = .ok (.iconst (-1), 1) := by decide +kernel
theorem dX8_crowds_83 : decode cX8_crowds 83 = .ok (.ixor, 1) := by decide +kernel
theorem dX8_crowds_84 : decode cX8_crowds 84 = .ok (.iand, 1) := by decide +kernel
theorem dX8_crowds_85 : decode cX8_crowds 85 = .ok (.invokestatic 334, 3) := by decide +kernel
theorem dX8_crowds_88 : decode cX8_crowds 88 = .ok (.if_icmp .le 18, 3) := by decide +kernel
theorem dX8_crowds_91 : decode cX8_crowds 91 = .ok (.iload 5, 2) := by decide +kernel
theorem dX8_crowds_93 : decode cX8_crowds 93 = .ok (.iload_n 2, 1) := by decide +kernel
theorem dX8_crowds_94 : decode cX8_crowds 94 = .ok (.if_icmp .gt 6, 3) := by decide +kernel
theorem dX8_crowds_97 : decode cX8_crowds 97 = .ok (.goto 9, 3) := by decide +kernel
theorem dX8_crowds_100 : decode cX8_crowds 100 = .ok (.iload 5, 2) := by decide +kernel
theorem dX8_crowds_102 : decode cX8_crowds 102 = .ok (.istore_n 2, 1) := by decide +kernel
theorem dX8_crowds_103 : decode cX8_crowds 103 = .ok (.iload 4, 2) := by decide +kernel
theorem dX8_crowds_105 : decode cX8_crowds 105 = .ok (.istore_n 3, 1) := by decide +kernel
theorem dX8_crowds_106 : decode cX8_crowds 106 = .ok (.iinc 4 1, 3) := by decide +kernel
theorem dX8_crowds_109 : decode cX8_crowds 109 = .ok (.goto (-87), 3) := by decide +kernel
theorem dX8_crowds_112 : decode cX8_crowds 112 = .ok (.iload_n 3, 1) := by decide +kernel
theorem dX8_crowds_113 : decode cX8_crowds 113 = .ok (.ireturn, 1) := by decide +kernel
theorem fsub {n b : Nat} (hn : n ≤ 7) (hb : b ≤ 16) : (nI n - 1 - nI b).toInt ≤ 16 := by
  have a := nI_m1 (n := n) (by omega)
  have c := nI_toInt (n := b) (by omega)
  rw [Jvm.Kit.i32_sub (by omega) (by omega), a, c]
  omega
theorem rem_lt {x y : Int64} (h : ¬ y = 0) : (x - x / y * y).toInt.natAbs < y.toInt.natAbs := by
  rw [Jvm.Kit.i64_rem, Int.natAbs_tmod]
  refine Nat.mod_lt _ ?_
  have z : y.toInt ≠ 0 := fun e => h (Int64.toInt_inj.mp (by rw [e]; decide))
  omega
theorem long_ne {n : Nat} (h1 : 1 ≤ n) (h2 : n < 2 ^ 31) : ¬ (nI n).toInt64 = 0 := by
  intro e
  have a := Jvm.Kit.i64_of_i32 (nI n)
  rw [nI_toInt h2, e] at a
  have k : (0 : Int64).toInt = 0 := (by decide)
  omega
def pbq (x : Int32) : Prop := x = -1 ∨ ∃ n : Nat, n ≤ 6 ∧ x = nI n
theorem lm_bd {x : Int64} {y : Int64} {t : Nat} (hx0 : 0 ≤ x.toInt) (hx : x.toInt ≤ 10 ^ t) (ht : t ≤ 8) (hy0 : 0 ≤ y.toInt) (hy : y.toInt ≤ 10) : (x * y).toInt = x.toInt * y.toInt ∧ 0 ≤ x.toInt * y.toInt ∧ x.toInt * y.toInt ≤ 10 ^ (t + 1) := by
  have h8 : (10 : Int) ^ t ≤ 10 ^ 8 := by
    have : (10 : Nat) ^ t ≤ 10 ^ 8 := Nat.pow_le_pow_right (by decide) ht
    exact_mod_cast this
  have h0 : 0 ≤ x.toInt * y.toInt := Int.mul_nonneg hx0 hy0
  have h1 : x.toInt * y.toInt ≤ 10 ^ t * 10 := Int.mul_le_mul hx hy hy0 (by omega)
  refine ⟨Jvm.Kit.i64_mul (by omega) (by omega), h0, ?_⟩
  rw [Int.pow_succ]; exact h1
theorem wd801 : Cond.methodLink RX8 346 yX8_areTwo ∈ tblG := gw8 41 (by decide +kernel) (by decide +kernel)
theorem wd802 : Cond.instanceMethod yX8_areTwo ∈ tblG := gw8 43 (by decide +kernel) (by decide +kernel)
theorem wd803 : Cond.selects RX8 yX8_areTwo yX8_areTwo ∈ tblG := gw0 96 (by decide +kernel) (by decide +kernel)
theorem wd804 : Cond.code yX8_areTwo cX8_areTwo 3 (some .boolean) ∈ tblG := gw8 44 (by decide +kernel) (by decide +kernel)
theorem pl_X8_areTwo : Plain yX8_areTwo 2 := ⟨by decide, by decide, by decide +kernel⟩
theorem lk_X8_346 : LkV RX8 346 8 yX8_areTwo cX8_areTwo 3 (some .boolean) 2 := ⟨⟨TX8, 41, rfl⟩, wd801, wd802, wd803, wd649, wd804, pl_X8_areTwo⟩
theorem wd805 : Cond.methodLink RX8 349 yX8_goOn ∈ tblG := gw8 57 (by decide +kernel) (by decide +kernel)
theorem wd806 : Cond.instanceMethod yX8_goOn ∈ tblG := gw8 59 (by decide +kernel) (by decide +kernel)
theorem wd807 : Cond.selects RX8 yX8_goOn yX8_goOn ∈ tblG := gw0 97 (by decide +kernel) (by decide +kernel)
theorem wd808 : Cond.code yX8_goOn cX8_goOn 5 (some .int) ∈ tblG := gw8 60 (by decide +kernel) (by decide +kernel)
theorem pl_X8_goOn : Plain yX8_goOn 1 := ⟨by decide, by decide, by decide +kernel⟩
theorem lk_X8_349 : LkV RX8 349 8 yX8_goOn cX8_goOn 5 (some .int) 1 := ⟨⟨TX8, 41, rfl⟩, wd805, wd806, wd807, wd649, wd808, pl_X8_goOn⟩
theorem wd809 : Cond.fieldLink RX8 67 RX8 "some" "[I" ∈ tblG := gw6 63 (by decide +kernel) (by decide +kernel)
theorem fk_X8_67 : FLk RX8 67 8 29 (.array .int) true := ⟨RX8, TX8, 41, tyX8, clX8, by decide, rfl, rfl, rfl, Or.inl wd809⟩
theorem wd810 : Cond.methodLink RX8 352 yX8_someAt ∈ tblG := gw8 73 (by decide +kernel) (by decide +kernel)
theorem wd811 : Cond.instanceMethod yX8_someAt ∈ tblG := gw8 75 (by decide +kernel) (by decide +kernel)
theorem wd812 : Cond.selects RX8 yX8_someAt yX8_someAt ∈ tblG := gw0 99 (by decide +kernel) (by decide +kernel)
theorem wd813 : Cond.code yX8_someAt cX8_someAt 3 none ∈ tblG := gw8 76 (by decide +kernel) (by decide +kernel)
theorem pl_X8_someAt : Plain yX8_someAt 1 := ⟨by decide, by decide, by decide +kernel⟩
theorem lk_X8_352 : LkV RX8 352 8 yX8_someAt cX8_someAt 3 none 1 := ⟨⟨TX8, 41, rfl⟩, wd810, wd811, wd812, wd649, wd813, pl_X8_someAt⟩
theorem wd814 : Cond.methodLink RX8 355 yX8_numberOf ∈ tblG := gw8 77 (by decide +kernel) (by decide +kernel)
theorem wd815 : Cond.instanceMethod yX8_numberOf ∈ tblG := gw8 79 (by decide +kernel) (by decide +kernel)
theorem wd816 : Cond.selects RX8 yX8_numberOf yX8_numberOf ∈ tblG := gw0 100 (by decide +kernel) (by decide +kernel)
theorem wd817 : Cond.code yX8_numberOf cX8_numberOf 4 (some .int) ∈ tblG := gw8 80 (by decide +kernel) (by decide +kernel)
theorem pl_X8_numberOf : Plain yX8_numberOf 0 := ⟨by decide, by decide, by decide +kernel⟩
theorem lk_X8_355 : LkV RX8 355 8 yX8_numberOf cX8_numberOf 4 (some .int) 0 := ⟨⟨TX8, 41, rfl⟩, wd814, wd815, wd816, wd649, wd817, pl_X8_numberOf⟩
theorem wd818 : Cond.methodLink RX8 358 yX8_settingAt ∈ tblG := gw8 69 (by decide +kernel) (by decide +kernel)
theorem wd819 : Cond.instanceMethod yX8_settingAt ∈ tblG := gw8 71 (by decide +kernel) (by decide +kernel)
theorem wd820 : Cond.selects RX8 yX8_settingAt yX8_settingAt ∈ tblG := gw0 98 (by decide +kernel) (by decide +kernel)
theorem wd821 : Cond.code yX8_settingAt cX8_settingAt 2 (some .int) ∈ tblG := gw8 72 (by decide +kernel) (by decide +kernel)
theorem pl_X8_settingAt : Plain yX8_settingAt 1 := ⟨by decide, by decide, by decide +kernel⟩
theorem lk_X8_358 : LkV RX8 358 8 yX8_settingAt cX8_settingAt 2 (some .int) 1 := ⟨⟨TX8, 41, rfl⟩, wd818, wd819, wd820, wd649, wd821, pl_X8_settingAt⟩
theorem wd822 : Cond.methodLink RX8 361 yX8_settingMany ∈ tblG := gw8 85 (by decide +kernel) (by decide +kernel)
theorem wd823 : Cond.instanceMethod yX8_settingMany ∈ tblG := gw8 87 (by decide +kernel) (by decide +kernel)
theorem wd824 : Cond.selects RX8 yX8_settingMany yX8_settingMany ∈ tblG := gw0 101 (by decide +kernel) (by decide +kernel)
theorem wd825 : Cond.code yX8_settingMany cX8_settingMany 3 (some .int) ∈ tblG := gw8 88 (by decide +kernel) (by decide +kernel)
theorem pl_X8_settingMany : Plain yX8_settingMany 0 := ⟨by decide, by decide, by decide +kernel⟩
theorem lk_X8_361 : LkV RX8 361 8 yX8_settingMany cX8_settingMany 3 (some .int) 0 := ⟨⟨TX8, 41, rfl⟩, wd822, wd823, wd824, wd649, wd825, pl_X8_settingMany⟩
theorem wd826 : Cond.methodLink RX8 364 yX8_armGoes ∈ tblG := gw8 105 (by decide +kernel) (by decide +kernel)
theorem wd827 : Cond.instanceMethod yX8_armGoes ∈ tblG := gw8 107 (by decide +kernel) (by decide +kernel)
theorem wd828 : Cond.selects RX8 yX8_armGoes yX8_armGoes ∈ tblG := gw0 104 (by decide +kernel) (by decide +kernel)
theorem wd829 : Cond.code yX8_armGoes cX8_armGoes 2 (some .int) ∈ tblG := gw8 108 (by decide +kernel) (by decide +kernel)
theorem pl_X8_armGoes : Plain yX8_armGoes 1 := ⟨by decide, by decide, by decide +kernel⟩
theorem lk_X8_364 : LkV RX8 364 8 yX8_armGoes cX8_armGoes 2 (some .int) 1 := ⟨⟨TX8, 41, rfl⟩, wd826, wd827, wd828, wd649, wd829, pl_X8_armGoes⟩
theorem wd830 : Cond.methodLink RX8 367 yX8_isHomeBy ∈ tblG := gw8 101 (by decide +kernel) (by decide +kernel)
theorem wd831 : Cond.instanceMethod yX8_isHomeBy ∈ tblG := gw8 103 (by decide +kernel) (by decide +kernel)
theorem wd832 : Cond.selects RX8 yX8_isHomeBy yX8_isHomeBy ∈ tblG := gw0 103 (by decide +kernel) (by decide +kernel)
theorem wd833 : Cond.code yX8_isHomeBy cX8_isHomeBy 4 (some .boolean) ∈ tblG := gw8 104 (by decide +kernel) (by decide +kernel)
theorem pl_X8_isHomeBy : Plain yX8_isHomeBy 1 := ⟨by decide, by decide, by decide +kernel⟩
theorem lk_X8_367 : LkV RX8 367 8 yX8_isHomeBy cX8_isHomeBy 4 (some .boolean) 1 := ⟨⟨TX8, 41, rfl⟩, wd830, wd831, wd832, wd649, wd833, pl_X8_isHomeBy⟩
theorem wd834 : Cond.methodLink RX8 370 yX8_isTree ∈ tblG := gw8 97 (by decide +kernel) (by decide +kernel)
theorem wd835 : Cond.instanceMethod yX8_isTree ∈ tblG := gw8 99 (by decide +kernel) (by decide +kernel)
theorem wd836 : Cond.selects RX8 yX8_isTree yX8_isTree ∈ tblG := gw0 102 (by decide +kernel) (by decide +kernel)
theorem wd837 : Cond.code yX8_isTree cX8_isTree 3 (some .boolean) ∈ tblG := gw8 100 (by decide +kernel) (by decide +kernel)
theorem pl_X8_isTree : Plain yX8_isTree 0 := ⟨by decide, by decide, by decide +kernel⟩
theorem lk_X8_370 : LkV RX8 370 8 yX8_isTree cX8_isTree 3 (some .boolean) 0 := ⟨⟨TX8, 41, rfl⟩, wd834, wd835, wd836, wd649, wd837, pl_X8_isTree⟩
theorem wd838 : Cond.fieldLink RX8 373 RX8 "soloSteps" "I" ∈ tblG := gw6 64 (by decide +kernel) (by decide +kernel)
theorem fk_X8_373 : FLk RX8 373 8 30 (.int) false := ⟨RX8, TX8, 41, tyX8, clX8, by decide, rfl, rfl, rfl, Or.inl wd838⟩
theorem wd839 : Cond.methodLink RX8 376 yX8_soloBegin ∈ tblG := gw8 121 (by decide +kernel) (by decide +kernel)
theorem wd840 : Cond.instanceMethod yX8_soloBegin ∈ tblG := gw8 123 (by decide +kernel) (by decide +kernel)
theorem wd841 : Cond.selects RX8 yX8_soloBegin yX8_soloBegin ∈ tblG := gw0 105 (by decide +kernel) (by decide +kernel)
theorem wd842 : Cond.code yX8_soloBegin cX8_soloBegin 2 none ∈ tblG := gw8 124 (by decide +kernel) (by decide +kernel)
theorem pl_X8_soloBegin : Plain yX8_soloBegin 0 := ⟨by decide, by decide, by decide +kernel⟩
theorem lk_X8_376 : LkV RX8 376 8 yX8_soloBegin cX8_soloBegin 2 none 0 := ⟨⟨TX8, 41, rfl⟩, wd839, wd840, wd841, wd649, wd842, pl_X8_soloBegin⟩
theorem wd843 : Cond.methodLink RX8 379 yX8_solo ∈ tblG := gw8 125 (by decide +kernel) (by decide +kernel)
theorem wd844 : Cond.instanceMethod yX8_solo ∈ tblG := gw8 127 (by decide +kernel) (by decide +kernel)
theorem wd845 : Cond.selects RX8 yX8_solo yX8_solo ∈ tblG := gw0 106 (by decide +kernel) (by decide +kernel)
theorem wd846 : Cond.code yX8_solo cX8_solo 4 (some .int) ∈ tblG := gw8 128 (by decide +kernel) (by decide +kernel)
theorem pl_X8_solo : Plain yX8_solo 1 := ⟨by decide, by decide, by decide +kernel⟩
theorem lk_X8_379 : LkV RX8 379 8 yX8_solo cX8_solo 4 (some .int) 1 := ⟨⟨TX8, 41, rfl⟩, wd843, wd844, wd845, wd649, wd846, pl_X8_solo⟩
theorem wd847 : Cond.methodLink RX8 382 yX8_soloSetting ∈ tblG := gw8 137 (by decide +kernel) (by decide +kernel)
theorem wd848 : Cond.instanceMethod yX8_soloSetting ∈ tblG := gw8 139 (by decide +kernel) (by decide +kernel)
theorem wd849 : Cond.selects RX8 yX8_soloSetting yX8_soloSetting ∈ tblG := gw0 107 (by decide +kernel) (by decide +kernel)
theorem wd850 : Cond.code yX8_soloSetting cX8_soloSetting 2 (some .int) ∈ tblG := gw8 140 (by decide +kernel) (by decide +kernel)
theorem pl_X8_soloSetting : Plain yX8_soloSetting 0 := ⟨by decide, by decide, by decide +kernel⟩
theorem lk_X8_382 : LkV RX8 382 8 yX8_soloSetting cX8_soloSetting 2 (some .int) 0 := ⟨⟨TX8, 41, rfl⟩, wd847, wd848, wd849, wd649, wd850, pl_X8_soloSetting⟩
theorem wd851 : Cond.constantLong RX8 385 (20) ∈ tblG := gw8 145 (by decide +kernel) (by decide +kernel)
theorem wd852 : Cond.constant RX8 387 (1000000000) ∈ tblG := gw8 162 (by decide +kernel) (by decide +kernel)
theorem wd853 : Cond.methodLink RX8 388 yX8_cameTo ∈ tblG := gw8 158 (by decide +kernel) (by decide +kernel)
theorem wd854 : Cond.instanceMethod yX8_cameTo ∈ tblG := gw8 160 (by decide +kernel) (by decide +kernel)
theorem wd855 : Cond.selects RX8 yX8_cameTo yX8_cameTo ∈ tblG := gw0 108 (by decide +kernel) (by decide +kernel)
theorem wd856 : Cond.code yX8_cameTo cX8_cameTo 4 (some .int) ∈ tblG := gw8 161 (by decide +kernel) (by decide +kernel)
theorem pl_X8_cameTo : Plain yX8_cameTo 2 := ⟨by decide, by decide, by decide +kernel⟩
theorem lk_X8_388 : LkV RX8 388 8 yX8_cameTo cX8_cameTo 4 (some .int) 2 := ⟨⟨TX8, 41, rfl⟩, wd853, wd854, wd855, wd649, wd856, pl_X8_cameTo⟩
theorem wd857 : Cond.methodLink RX8 391 yX8_insideLast ∈ tblG := gw8 167 (by decide +kernel) (by decide +kernel)
theorem wd858 : Cond.instanceMethod yX8_insideLast ∈ tblG := gw8 169 (by decide +kernel) (by decide +kernel)
theorem wd859 : Cond.selects RX8 yX8_insideLast yX8_insideLast ∈ tblG := gw0 109 (by decide +kernel) (by decide +kernel)
theorem wd860 : Cond.code yX8_insideLast cX8_insideLast 1 (some .int) ∈ tblG := gw8 170 (by decide +kernel) (by decide +kernel)
theorem pl_X8_insideLast : Plain yX8_insideLast 0 := ⟨by decide, by decide, by decide +kernel⟩
theorem lk_X8_391 : LkV RX8 391 8 yX8_insideLast cX8_insideLast 1 (some .int) 0 := ⟨⟨TX8, 41, rfl⟩, wd857, wd858, wd859, wd649, wd860, pl_X8_insideLast⟩
