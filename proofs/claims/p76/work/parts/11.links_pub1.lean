theorem dX2_hasPlace_0 : decode cX2_hasPlace 0 = .ok (.iload_n 1, 1) := by decide +kernel
theorem dX2_hasPlace_1 : decode cX2_hasPlace 1 = .ok (.bipush 10, 2) := by decide +kernel
theorem dX2_hasPlace_3 : decode cX2_hasPlace 3 = .ok (.if_icmp .ge 11, 3) := by decide +kernel
theorem dX2_hasPlace_6 : decode cX2_hasPlace 6 = .ok (.aload_n 0, 1) := by decide +kernel
theorem dX2_hasPlace_7 : decode cX2_hasPlace 7 = .ok (.iload_n 1, 1) := by decide +kernel
theorem dX2_hasPlace_8 : decode cX2_hasPlace 8 = .ok (.invokevirtual 84, 3) := by decide +kernel
theorem dX2_hasPlace_11 : decode cX2_hasPlace 11 = .ok (.goto 11, 3) := by decide +kernel
theorem dX2_hasPlace_14 : decode cX2_hasPlace 14 = .ok (.aload_n 0, 1) := by decide +kernel
theorem dX2_hasPlace_15 : decode cX2_hasPlace 15 = .ok (.iload_n 1, 1) := by decide +kernel
theorem dX2_hasPlace_16 : decode cX2_hasPlace 16 = .ok (.bipush 10, 2) := by decide +kernel
theorem dX2_hasPlace_18 : decode cX2_hasPlace 18 = .ok (.isub, 1) := by decide +kernel
theorem dX2_hasPlace_19 : decode cX2_hasPlace 19 = .ok (.invokevirtual 88, 3) := by decide +kernel
theorem dX2_hasPlace_22 : decode cX2_hasPlace 22 = .ok (.ireturn, 1) := by decide +kernel
theorem dX7_fault_0 : decode cX7_fault 0 = .ok (.iload_n 1, 1) := by decide +kernel
theorem dX7_fault_1 : decode cX7_fault 1 = .ok (.ifCond .ne 11, 3) := by decide +kernel
theorem dX7_fault_4 : decode cX7_fault 4 = .ok (.aload_n 0, 1) := by decide +kernel
theorem dX7_fault_5 : decode cX7_fault 5 = .ok (.getfield 12, 3) := by decide +kernel
theorem dX7_fault_8 : decode cX7_fault 8 = .ok (.getfield 84, 3) := by decide +kernel
theorem dX7_fault_11 : decode cX7_fault 11 = .ok (.ireturn, 1) := by decide +kernel
theorem dX7_fault_12 : decode cX7_fault 12 = .ok (.iload_n 1, 1) := by decide +kernel
theorem dX7_fault_13 : decode cX7_fault 13 = .ok (.iconst 1, 1) := by decide +kernel
theorem dX7_fault_14 : decode cX7_fault 14 = .ok (.if_icmp .ne 13, 3) := by decide +kernel
theorem dX7_fault_17 : decode cX7_fault 17 = .ok (.aload_n 0, 1) := by decide +kernel
theorem dX7_fault_18 : decode cX7_fault 18 = .ok (.getfield 12, 3) := by decide +kernel
theorem dX7_fault_21 : decode cX7_fault 21 = .ok (.getfield 96, 3) := by decide +kernel
theorem dX7_fault_24 : decode cX7_fault 24 = .ok (.goto 4, 3) := by decide +kernel
theorem dX7_fault_27 : decode cX7_fault 27 = .ok (.iconst (-1), 1) := by decide +kernel
theorem dX7_fault_28 : decode cX7_fault 28 = .ok (.ireturn, 1) := by decide +kernel
theorem dX7_room_0 : decode cX7_room 0 = .ok (.aload_n 0, 1) := by decide +kernel
theorem dX7_room_1 : decode cX7_room 1 = .ok (.getfield 19, 3) := by decide +kernel
theorem dX7_room_4 : decode cX7_room 4 = .ok (.iload_n 1, 1) := by decide +kernel
theorem dX7_room_5 : decode cX7_room 5 = .ok (.invokevirtual 99, 3) := by decide +kernel
theorem dX7_room_8 : decode cX7_room 8 = .ok (.ifCond .eq 15, 3) := by decide +kernel
theorem dX7_room_11 : decode cX7_room 11 = .ok (.aload_n 0, 1) := by decide +kernel
theorem dX7_room_12 : decode cX7_room 12 = .ok (.getfield 19, 3) := by decide +kernel
theorem dX7_room_15 : decode cX7_room 15 = .ok (.getfield 103, 3) := by decide +kernel
theorem dX7_room_18 : decode cX7_room 18 = .ok (.iload_n 1, 1) := by decide +kernel
theorem dX7_room_19 : decode cX7_room 19 = .ok (.iaload, 1) := by decide +kernel
theorem dX7_room_20 : decode cX7_room 20 = .ok (.goto 5, 3) := by decide +kernel
theorem dX7_room_23 : decode cX7_room 23 = .ok (.bipush (-2), 2) := by decide +kernel
theorem dX7_room_25 : decode cX7_room 25 = .ok (.ireturn, 1) := by decide +kernel
theorem dX7_roads_0 : decode cX7_roads 0 = .ok (.aload_n 0, 1) := by decide +kernel
theorem dX7_roads_1 : decode cX7_roads 1 = .ok (.getfield 19, 3) := by decide +kernel
theorem dX7_roads_4 : decode cX7_roads 4 = .ok (.iload_n 1, 1) := by decide +kernel
theorem dX7_roads_5 : decode cX7_roads 5 = .ok (.invokevirtual 106, 3) := by decide +kernel
theorem dX7_roads_8 : decode cX7_roads 8 = .ok (.ifCond .eq 15, 3) := by decide +kernel
theorem dX7_roads_11 : decode cX7_roads 11 = .ok (.aload_n 0, 1) := by decide +kernel
theorem dX7_roads_12 : decode cX7_roads 12 = .ok (.getfield 19, 3) := by decide +kernel
theorem dX7_roads_15 : decode cX7_roads 15 = .ok (.getfield 109, 3) := by decide +kernel
theorem dX7_roads_18 : decode cX7_roads 18 = .ok (.iload_n 1, 1) := by decide +kernel
theorem dX7_roads_19 : decode cX7_roads 19 = .ok (.iaload, 1) := by decide +kernel
theorem dX7_roads_20 : decode cX7_roads 20 = .ok (.goto 5, 3) := by decide +kernel
theorem dX7_roads_23 : decode cX7_roads 23 = .ok (.bipush (-2), 2) := by decide +kernel
theorem dX7_roads_25 : decode cX7_roads 25 = .ok (.ireturn, 1) := by decide +kernel
theorem dX7_goes_0 : decode cX7_goes 0 = .ok (.aload_n 0, 1) := by decide +kernel
theorem dX7_goes_1 : decode cX7_goes 1 = .ok (.getfield 19, 3) := by decide +kernel
theorem dX7_goes_4 : decode cX7_goes 4 = .ok (.iload_n 1, 1) := by decide +kernel
theorem dX7_goes_5 : decode cX7_goes 5 = .ok (.invokevirtual 106, 3) := by decide +kernel
theorem dX7_goes_8 : decode cX7_goes 8 = .ok (.ifCond .eq 7, 3) := by decide +kernel
theorem dX7_goes_11 : decode cX7_goes 11 = .ok (.iload_n 2, 1) := by decide +kernel
theorem dX7_goes_12 : decode cX7_goes 12 = .ok (.ifCond .ge 6, 3) := by decide +kernel
theorem dX7_goes_15 : decode cX7_goes 15 = .ok (.bipush (-2), 2) := by decide +kernel
theorem dX7_goes_17 : decode cX7_goes 17 = .ok (.ireturn, 1) := by decide +kernel
theorem dX7_goes_18 : decode cX7_goes 18 = .ok (.iload_n 2, 1) := by decide +kernel
theorem dX7_goes_19 : decode cX7_goes 19 = .ok (.aload_n 0, 1) := by decide +kernel
theorem dX7_goes_20 : decode cX7_goes 20 = .ok (.getfield 19, 3) := by decide +kernel
theorem dX7_goes_23 : decode cX7_goes 23 = .ok (.getfield 109, 3) := by decide +kernel
theorem dX7_goes_26 : decode cX7_goes 26 = .ok (.iload_n 1, 1) := by decide +kernel
theorem dX7_goes_27 : decode cX7_goes 27 = .ok (.iaload, 1) := by decide +kernel
theorem dX7_goes_28 : decode cX7_goes 28 = .ok (.if_icmp .ge 15, 3) := by decide +kernel
theorem dX7_goes_31 : decode cX7_goes 31 = .ok (.aload_n 0, 1) := by decide +kernel
theorem dX7_goes_32 : decode cX7_goes 32 = .ok (.getfield 19, 3) := by decide +kernel
theorem dX7_goes_35 : decode cX7_goes 35 = .ok (.iload_n 1, 1) := by decide +kernel
theorem dX7_goes_36 : decode cX7_goes 36 = .ok (.iload_n 2, 1) := by decide +kernel
theorem dX7_goes_37 : decode cX7_goes 37 = .ok (.invokevirtual 112, 3) := by decide +kernel
theorem dX7_goes_40 : decode cX7_goes 40 = .ok (.goto 4, 3) := by decide +kernel
theorem dX7_goes_43 : decode cX7_goes 43 = .ok (.iconst (-1), 1) := by decide +kernel
theorem dX7_goes_44 : decode cX7_goes 44 = .ok (.ireturn, 1) := by decide +kernel
theorem dX7_told_0 : decode cX7_told 0 = .ok (.aload_n 0, 1) := by decide +kernel
theorem dX7_told_1 : decode cX7_told 1 = .ok (.getfield 19, 3) := by decide +kernel
theorem dX7_told_4 : decode cX7_told 4 = .ok (.iload_n 1, 1) := by decide +kernel
theorem dX7_told_5 : decode cX7_told 5 = .ok (.invokevirtual 106, 3) := by decide +kernel
theorem dX7_told_8 : decode cX7_told 8 = .ok (.ifCond .ne 6, 3) := by decide +kernel
theorem dX7_told_11 : decode cX7_told 11 = .ok (.bipush (-2), 2) := by decide +kernel
theorem dX7_told_13 : decode cX7_told 13 = .ok (.ireturn, 1) := by decide +kernel
theorem dX7_told_14 : decode cX7_told 14 = .ok (.aload_n 0, 1) := by decide +kernel
theorem dX7_told_15 : decode cX7_told 15 = .ok (.getfield 19, 3) := by decide +kernel
theorem dX7_told_18 : decode cX7_told 18 = .ok (.iload_n 1, 1) := by decide +kernel
theorem dX7_told_19 : decode cX7_told 19 = .ok (.invokevirtual 116, 3) := by decide +kernel
theorem dX7_told_22 : decode cX7_told 22 = .ok (.ifCond .eq 15, 3) := by decide +kernel
theorem dX7_told_25 : decode cX7_told 25 = .ok (.aload_n 0, 1) := by decide +kernel
theorem dX7_told_26 : decode cX7_told 26 = .ok (.getfield 19, 3) := by decide +kernel
theorem dX7_told_29 : decode cX7_told 29 = .ok (.getfield 119, 3) := by decide +kernel
theorem dX7_told_32 : decode cX7_told 32 = .ok (.iload_n 1, 1) := by decide +kernel
theorem dX7_told_33 : decode cX7_told 33 = .ok (.iaload, 1) := by decide +kernel
theorem dX7_told_34 : decode cX7_told 34 = .ok (.goto 4, 3) := by decide +kernel
theorem dX7_told_37 : decode cX7_told 37 = .ok (.iconst (-1), 1) := by decide +kernel
theorem dX7_told_38 : decode cX7_told 38 = .ok (.ireturn, 1) := by decide +kernel
theorem dX7_walker_0 : decode cX7_walker 0 = .ok (.aload_n 0, 1) := by decide +kernel
theorem dX7_walker_1 : decode cX7_walker 1 = .ok (.getfield 19, 3) := by decide +kernel
theorem dX7_walker_4 : decode cX7_walker 4 = .ok (.iload_n 1, 1) := by decide +kernel
theorem dX7_walker_5 : decode cX7_walker 5 = .ok (.invokevirtual 122, 3) := by decide +kernel
theorem dX7_walker_8 : decode cX7_walker 8 = .ok (.ifCond .eq 10, 3) := by decide +kernel
theorem dX7_walker_11 : decode cX7_walker 11 = .ok (.iload_n 2, 1) := by decide +kernel
theorem dX7_walker_12 : decode cX7_walker 12 = .ok (.invokestatic 125, 3) := by decide +kernel
theorem dX7_walker_15 : decode cX7_walker 15 = .ok (.ifCond .ne 6, 3) := by decide +kernel
theorem dX7_walker_18 : decode cX7_walker 18 = .ok (.bipush (-2), 2) := by decide +kernel
theorem dX7_walker_20 : decode cX7_walker 20 = .ok (.ireturn, 1) := by decide +kernel
theorem dX7_walker_21 : decode cX7_walker 21 = .ok (.iload_n 2, 1) := by decide +kernel
theorem dX7_walker_22 : decode cX7_walker 22 = .ok (.ifCond .ne 15, 3) := by decide +kernel
theorem dX7_walker_25 : decode cX7_walker 25 = .ok (.aload_n 0, 1) := by decide +kernel
theorem dX7_walker_26 : decode cX7_walker 26 = .ok (.getfield 19, 3) := by decide +kernel
theorem dX7_walker_29 : decode cX7_walker 29 = .ok (.getfield 128, 3) := by decide +kernel
theorem dX7_walker_32 : decode cX7_walker 32 = .ok (.iload_n 1, 1) := by decide +kernel
theorem dX7_walker_33 : decode cX7_walker 33 = .ok (.iaload, 1) := by decide +kernel
theorem dX7_walker_34 : decode cX7_walker 34 = .ok (.goto 12, 3) := by decide +kernel
theorem dX7_walker_37 : decode cX7_walker 37 = .ok (.aload_n 0, 1) := by decide +kernel
theorem dX7_walker_38 : decode cX7_walker 38 = .ok (.getfield 19, 3) := by decide +kernel
theorem dX7_walker_41 : decode cX7_walker 41 = .ok (.getfield 131, 3) := by decide +kernel
theorem dX7_walker_44 : decode cX7_walker 44 = .ok (.iload_n 1, 1) := by decide +kernel
theorem dX7_walker_45 : decode cX7_walker 45 = .ok (.iaload, 1) := by decide +kernel
theorem dX7_walker_46 : decode cX7_walker 46 = .ok (.ireturn, 1) := by decide +kernel
theorem dX7_at_0 : decode cX7_at 0 = .ok (.aload_n 0, 1) := by decide +kernel
theorem dX7_at_1 : decode cX7_at 1 = .ok (.getfield 19, 3) := by decide +kernel
theorem dX7_at_4 : decode cX7_at 4 = .ok (.iload_n 1, 1) := by decide +kernel
theorem dX7_at_5 : decode cX7_at 5 = .ok (.invokevirtual 122, 3) := by decide +kernel
theorem dX7_at_8 : decode cX7_at 8 = .ok (.ifCond .eq 14, 3) := by decide +kernel
theorem dX7_at_11 : decode cX7_at 11 = .ok (.aload_n 0, 1) := by decide +kernel
theorem dX7_at_12 : decode cX7_at 12 = .ok (.getfield 19, 3) := by decide +kernel
theorem dX7_at_15 : decode cX7_at 15 = .ok (.iload_n 2, 1) := by decide +kernel
theorem dX7_at_16 : decode cX7_at 16 = .ok (.invokevirtual 134, 3) := by decide +kernel
theorem dX7_at_19 : decode cX7_at 19 = .ok (.ifCond .ne 6, 3) := by decide +kernel
theorem dX7_at_22 : decode cX7_at 22 = .ok (.bipush (-2), 2) := by decide +kernel
theorem dX7_at_24 : decode cX7_at 24 = .ok (.ireturn, 1) := by decide +kernel
theorem dX7_at_25 : decode cX7_at 25 = .ok (.aload_n 0, 1) := by decide +kernel
theorem dX7_at_26 : decode cX7_at 26 = .ok (.getfield 41, 3) := by decide +kernel
theorem dX7_at_29 : decode cX7_at 29 = .ok (.iload_n 1, 1) := by decide +kernel
theorem dX7_at_30 : decode cX7_at 30 = .ok (.iload_n 2, 1) := by decide +kernel
theorem dX7_at_31 : decode cX7_at 31 = .ok (.invokevirtual 137, 3) := by decide +kernel
theorem dX7_at_34 : decode cX7_at 34 = .ok (.ireturn, 1) := by decide +kernel
theorem dX7_arm_0 : decode cX7_arm 0 = .ok (.aload_n 0, 1) := by decide +kernel
theorem dX7_arm_1 : decode cX7_arm 1 = .ok (.getfield 19, 3) := by decide +kernel
theorem dX7_arm_4 : decode cX7_arm 4 = .ok (.iload_n 1, 1) := by decide +kernel
theorem dX7_arm_5 : decode cX7_arm 5 = .ok (.invokevirtual 106, 3) := by decide +kernel
theorem dX7_arm_8 : decode cX7_arm 8 = .ok (.ifCond .eq 14, 3) := by decide +kernel
theorem dX7_arm_11 : decode cX7_arm 11 = .ok (.aload_n 0, 1) := by decide +kernel
theorem dX7_arm_12 : decode cX7_arm 12 = .ok (.getfield 19, 3) := by decide +kernel
theorem dX7_arm_15 : decode cX7_arm 15 = .ok (.iload_n 2, 1) := by decide +kernel
theorem dX7_arm_16 : decode cX7_arm 16 = .ok (.invokevirtual 134, 3) := by decide +kernel
theorem dX7_arm_19 : decode cX7_arm 19 = .ok (.ifCond .ne 6, 3) := by decide +kernel
theorem dX7_arm_22 : decode cX7_arm 22 = .ok (.bipush (-2), 2) := by decide +kernel
theorem dX7_arm_24 : decode cX7_arm 24 = .ok (.ireturn, 1) := by decide +kernel
theorem dX7_arm_25 : decode cX7_arm 25 = .ok (.aload_n 0, 1) := by decide +kernel
theorem dX7_arm_26 : decode cX7_arm 26 = .ok (.getfield 41, 3) := by decide +kernel
theorem dX7_arm_29 : decode cX7_arm 29 = .ok (.iload_n 1, 1) := by decide +kernel
theorem dX7_arm_30 : decode cX7_arm 30 = .ok (.iload_n 2, 1) := by decide +kernel
theorem dX7_arm_31 : decode cX7_arm 31 = .ok (.invokevirtual 140, 3) := by decide +kernel
theorem dX7_arm_34 : decode cX7_arm 34 = .ok (.ireturn, 1) := by decide +kernel
theorem dX7_here_0 : decode cX7_here 0 = .ok (.aload_n 0, 1) := by decide +kernel
theorem dX7_here_1 : decode cX7_here 1 = .ok (.getfield 19, 3) := by decide +kernel
theorem dX7_here_4 : decode cX7_here 4 = .ok (.iload_n 1, 1) := by decide +kernel
theorem dX7_here_5 : decode cX7_here 5 = .ok (.invokevirtual 143, 3) := by decide +kernel
theorem dX7_here_8 : decode cX7_here 8 = .ok (.ifCond .eq 14, 3) := by decide +kernel
theorem dX7_here_11 : decode cX7_here 11 = .ok (.aload_n 0, 1) := by decide +kernel
theorem dX7_here_12 : decode cX7_here 12 = .ok (.getfield 19, 3) := by decide +kernel
theorem dX7_here_15 : decode cX7_here 15 = .ok (.iload_n 2, 1) := by decide +kernel
theorem dX7_here_16 : decode cX7_here 16 = .ok (.invokevirtual 134, 3) := by decide +kernel
theorem dX7_here_19 : decode cX7_here 19 = .ok (.ifCond .ne 6, 3) := by decide +kernel
theorem dX7_here_22 : decode cX7_here 22 = .ok (.bipush (-2), 2) := by decide +kernel
theorem dX7_here_24 : decode cX7_here 24 = .ok (.ireturn, 1) := by decide +kernel
theorem dX7_here_25 : decode cX7_here 25 = .ok (.aload_n 0, 1) := by decide +kernel
theorem dX7_here_26 : decode cX7_here 26 = .ok (.getfield 41, 3) := by decide +kernel
theorem dX7_here_29 : decode cX7_here 29 = .ok (.iload_n 1, 1) := by decide +kernel
theorem dX7_here_30 : decode cX7_here 30 = .ok (.iload_n 2, 1) := by decide +kernel
theorem dX7_here_31 : decode cX7_here 31 = .ok (.invokevirtual 146, 3) := by decide +kernel
theorem dX7_here_34 : decode cX7_here 34 = .ok (.ireturn, 1) := by decide +kernel
theorem dX7_sent_0 : decode cX7_sent 0 = .ok (.aload_n 0, 1) := by decide +kernel
theorem dX7_sent_1 : decode cX7_sent 1 = .ok (.getfield 19, 3) := by decide +kernel
theorem dX7_sent_4 : decode cX7_sent 4 = .ok (.iload_n 1, 1) := by decide +kernel
theorem dX7_sent_5 : decode cX7_sent 5 = .ok (.invokevirtual 149, 3) := by decide +kernel
theorem dX7_sent_8 : decode cX7_sent 8 = .ok (.ifCond .eq 14, 3) := by decide +kernel
theorem dX7_sent_11 : decode cX7_sent 11 = .ok (.aload_n 0, 1) := by decide +kernel
theorem dX7_sent_12 : decode cX7_sent 12 = .ok (.getfield 41, 3) := by decide +kernel
theorem dX7_sent_15 : decode cX7_sent 15 = .ok (.iload_n 1, 1) := by decide +kernel
theorem dX7_sent_16 : decode cX7_sent 16 = .ok (.invokevirtual 152, 3) := by decide +kernel
theorem dX7_sent_19 : decode cX7_sent 19 = .ok (.goto 5, 3) := by decide +kernel
theorem dX7_sent_22 : decode cX7_sent 22 = .ok (.bipush (-2), 2) := by decide +kernel
theorem dX7_sent_24 : decode cX7_sent 24 = .ok (.ireturn, 1) := by decide +kernel
theorem dX7_sends_0 : decode cX7_sends 0 = .ok (.aload_n 0, 1) := by decide +kernel
theorem dX7_sends_1 : decode cX7_sends 1 = .ok (.getfield 19, 3) := by decide +kernel
theorem dX7_sends_4 : decode cX7_sends 4 = .ok (.iload_n 1, 1) := by decide +kernel
theorem dX7_sends_5 : decode cX7_sends 5 = .ok (.invokevirtual 106, 3) := by decide +kernel
theorem dX7_sends_8 : decode cX7_sends 8 = .ok (.ifCond .eq 14, 3) := by decide +kernel
theorem dX7_sends_11 : decode cX7_sends 11 = .ok (.aload_n 0, 1) := by decide +kernel
theorem dX7_sends_12 : decode cX7_sends 12 = .ok (.getfield 41, 3) := by decide +kernel
theorem dX7_sends_15 : decode cX7_sends 15 = .ok (.iload_n 1, 1) := by decide +kernel
theorem dX7_sends_16 : decode cX7_sends 16 = .ok (.invokevirtual 156, 3) := by decide +kernel
theorem dX7_sends_19 : decode cX7_sends 19 = .ok (.goto 5, 3) := by decide +kernel
theorem dX7_sends_22 : decode cX7_sends 22 = .ok (.bipush (-2), 2) := by decide +kernel
theorem dX7_sends_24 : decode cX7_sends 24 = .ok (.ireturn, 1) := by decide +kernel
theorem dX7_used_0 : decode cX7_used 0 = .ok (.aload_n 0, 1) := by decide +kernel
theorem dX7_used_1 : decode cX7_used 1 = .ok (.getfield 19, 3) := by decide +kernel
theorem dX7_used_4 : decode cX7_used 4 = .ok (.iload_n 1, 1) := by decide +kernel
theorem dX7_used_5 : decode cX7_used 5 = .ok (.invokevirtual 106, 3) := by decide +kernel
theorem dX7_used_8 : decode cX7_used 8 = .ok (.ifCond .eq 7, 3) := by decide +kernel
theorem dX7_used_11 : decode cX7_used 11 = .ok (.iload_n 2, 1) := by decide +kernel
theorem dX7_used_12 : decode cX7_used 12 = .ok (.ifCond .ge 6, 3) := by decide +kernel
theorem dX7_used_15 : decode cX7_used 15 = .ok (.bipush (-2), 2) := by decide +kernel
theorem dX7_used_17 : decode cX7_used 17 = .ok (.ireturn, 1) := by decide +kernel
theorem dX7_used_18 : decode cX7_used 18 = .ok (.iload_n 2, 1) := by decide +kernel
theorem dX7_used_19 : decode cX7_used 19 = .ok (.aload_n 0, 1) := by decide +kernel
theorem dX7_used_20 : decode cX7_used 20 = .ok (.getfield 19, 3) := by decide +kernel
theorem dX7_used_23 : decode cX7_used 23 = .ok (.getfield 109, 3) := by decide +kernel
theorem dX7_used_26 : decode cX7_used 26 = .ok (.iload_n 1, 1) := by decide +kernel
theorem dX7_used_27 : decode cX7_used 27 = .ok (.iaload, 1) := by decide +kernel
theorem dX7_used_28 : decode cX7_used 28 = .ok (.if_icmp .ge 15, 3) := by decide +kernel
theorem dX7_used_31 : decode cX7_used 31 = .ok (.aload_n 0, 1) := by decide +kernel
theorem dX7_used_32 : decode cX7_used 32 = .ok (.getfield 41, 3) := by decide +kernel
theorem dX7_used_35 : decode cX7_used 35 = .ok (.iload_n 1, 1) := by decide +kernel
theorem dX7_used_36 : decode cX7_used 36 = .ok (.iload_n 2, 1) := by decide +kernel
theorem dX7_used_37 : decode cX7_used 37 = .ok (.invokevirtual 159, 3) := by decide +kernel
theorem dX7_used_40 : decode cX7_used 40 = .ok (.goto 4, 3) := by decide +kernel
theorem dX7_used_43 : decode cX7_used 43 = .ok (.iconst (-1), 1) := by decide +kernel
theorem dX7_used_44 : decode cX7_used 44 = .ok (.ireturn, 1) := by decide +kernel
theorem dX7_walks_0 : decode cX7_walks 0 = .ok (.aload_n 0, 1) := by decide +kernel
theorem dX7_walks_1 : decode cX7_walks 1 = .ok (.getfield 19, 3) := by decide +kernel
theorem dX7_walks_4 : decode cX7_walks 4 = .ok (.iload_n 1, 1) := by decide +kernel
theorem dX7_walks_5 : decode cX7_walks 5 = .ok (.invokevirtual 122, 3) := by decide +kernel
theorem dX7_walks_8 : decode cX7_walks 8 = .ok (.ifCond .eq 14, 3) := by decide +kernel
theorem dX7_walks_11 : decode cX7_walks 11 = .ok (.aload_n 0, 1) := by decide +kernel
theorem dX7_walks_12 : decode cX7_walks 12 = .ok (.getfield 41, 3) := by decide +kernel
theorem dX7_walks_15 : decode cX7_walks 15 = .ok (.iload_n 1, 1) := by decide +kernel
theorem dX7_walks_16 : decode cX7_walks 16 = .ok (.invokevirtual 162, 3) := by decide +kernel
theorem dX7_walks_19 : decode cX7_walks 19 = .ok (.goto 5, 3) := by decide +kernel
theorem dX7_walks_22 : decode cX7_walks 22 = .ok (.bipush (-2), 2) := by decide +kernel
theorem dX7_walks_24 : decode cX7_walks 24 = .ok (.ireturn, 1) := by decide +kernel
theorem dX7_home_0 : decode cX7_home 0 = .ok (.aload_n 0, 1) := by decide +kernel
theorem dX7_home_1 : decode cX7_home 1 = .ok (.getfield 19, 3) := by decide +kernel
theorem dX7_home_4 : decode cX7_home 4 = .ok (.iload_n 1, 1) := by decide +kernel
theorem dX7_home_5 : decode cX7_home 5 = .ok (.invokevirtual 122, 3) := by decide +kernel
theorem dX7_home_8 : decode cX7_home 8 = .ok (.ifCond .eq 14, 3) := by decide +kernel
theorem dX7_home_11 : decode cX7_home 11 = .ok (.aload_n 0, 1) := by decide +kernel
theorem dX7_home_12 : decode cX7_home 12 = .ok (.getfield 41, 3) := by decide +kernel
theorem dX7_home_15 : decode cX7_home 15 = .ok (.iload_n 1, 1) := by decide +kernel
theorem dX7_home_16 : decode cX7_home 16 = .ok (.invokevirtual 165, 3) := by decide +kernel
theorem dX7_home_19 : decode cX7_home 19 = .ok (.goto 5, 3) := by decide +kernel
theorem dX7_home_22 : decode cX7_home 22 = .ok (.bipush (-2), 2) := by decide +kernel
theorem dX7_home_24 : decode cX7_home 24 = .ok (.ireturn, 1) := by decide +kernel
theorem dX7_inn_0 : decode cX7_inn 0 = .ok (.aload_n 0, 1) := by decide +kernel
theorem dX7_inn_1 : decode cX7_inn 1 = .ok (.getfield 19, 3) := by decide +kernel
theorem dX7_inn_4 : decode cX7_inn 4 = .ok (.iload_n 1, 1) := by decide +kernel
theorem dX7_inn_5 : decode cX7_inn 5 = .ok (.invokevirtual 122, 3) := by decide +kernel
theorem dX7_inn_8 : decode cX7_inn 8 = .ok (.ifCond .ne 6, 3) := by decide +kernel
theorem dX7_inn_11 : decode cX7_inn 11 = .ok (.bipush (-2), 2) := by decide +kernel
theorem dX7_inn_13 : decode cX7_inn 13 = .ok (.ireturn, 1) := by decide +kernel
theorem dX7_inn_14 : decode cX7_inn 14 = .ok (.aload_n 0, 1) := by decide +kernel
theorem dX7_inn_15 : decode cX7_inn 15 = .ok (.getfield 41, 3) := by decide +kernel
theorem dX7_inn_18 : decode cX7_inn 18 = .ok (.iload_n 1, 1) := by decide +kernel
theorem dX7_inn_19 : decode cX7_inn 19 = .ok (.aload_n 0, 1) := by decide +kernel
theorem dX7_inn_20 : decode cX7_inn 20 = .ok (.getfield 19, 3) := by decide +kernel
theorem dX7_inn_23 : decode cX7_inn 23 = .ok (.getfield 168, 3) := by decide +kernel
theorem dX7_inn_26 : decode cX7_inn 26 = .ok (.invokevirtual 137, 3) := by decide +kernel
theorem dX7_inn_29 : decode cX7_inn 29 = .ok (.istore_n 2, 1) := by decide +kernel
theorem dX7_inn_30 : decode cX7_inn 30 = .ok (.iload_n 2, 1) := by decide +kernel
theorem dX7_inn_31 : decode cX7_inn 31 = .ok (.bipush 10, 2) := by decide +kernel
theorem dX7_inn_33 : decode cX7_inn 33 = .ok (.if_icmp .lt 10, 3) := by decide +kernel
theorem dX7_inn_36 : decode cX7_inn 36 = .ok (.iload_n 2, 1) := by decide +kernel
theorem dX7_inn_37 : decode cX7_inn 37 = .ok (.bipush 10, 2) := by decide +kernel
theorem dX7_inn_39 : decode cX7_inn 39 = .ok (.isub, 1) := by decide +kernel
theorem dX7_inn_40 : decode cX7_inn 40 = .ok (.goto 4, 3) := by decide +kernel
theorem dX7_inn_43 : decode cX7_inn 43 = .ok (.iconst (-1), 1) := by decide +kernel
theorem dX7_inn_44 : decode cX7_inn 44 = .ok (.ireturn, 1) := by decide +kernel
theorem dX7_trail_0 : decode cX7_trail 0 = .ok (.aload_n 0, 1) := by decide +kernel
theorem dX7_trail_1 : decode cX7_trail 1 = .ok (.getfield 19, 3) := by decide +kernel
theorem dX7_trail_4 : decode cX7_trail 4 = .ok (.iload_n 1, 1) := by decide +kernel
theorem dX7_trail_5 : decode cX7_trail 5 = .ok (.invokevirtual 122, 3) := by decide +kernel
theorem dX7_trail_8 : decode cX7_trail 8 = .ok (.ifCond .eq 14, 3) := by decide +kernel
theorem dX7_trail_11 : decode cX7_trail 11 = .ok (.aload_n 0, 1) := by decide +kernel
theorem dX7_trail_12 : decode cX7_trail 12 = .ok (.getfield 41, 3) := by decide +kernel
theorem dX7_trail_15 : decode cX7_trail 15 = .ok (.iload_n 1, 1) := by decide +kernel
theorem dX7_trail_16 : decode cX7_trail 16 = .ok (.invokevirtual 171, 3) := by decide +kernel
theorem dX7_trail_19 : decode cX7_trail 19 = .ok (.goto 5, 3) := by decide +kernel
theorem dX7_trail_22 : decode cX7_trail 22 = .ok (.bipush (-2), 2) := by decide +kernel
theorem dX7_trail_24 : decode cX7_trail 24 = .ok (.ireturn, 1) := by decide +kernel
theorem dX7_again_0 : decode cX7_again 0 = .ok (.aload_n 0, 1) := by decide +kernel
theorem dX7_again_1 : decode cX7_again 1 = .ok (.getfield 19, 3) := by decide +kernel
theorem dX7_again_4 : decode cX7_again 4 = .ok (.iload_n 1, 1) := by decide +kernel
theorem dX7_again_5 : decode cX7_again 5 = .ok (.invokevirtual 122, 3) := by decide +kernel
theorem dX7_again_8 : decode cX7_again 8 = .ok (.ifCond .eq 14, 3) := by decide +kernel
theorem dX7_again_11 : decode cX7_again 11 = .ok (.aload_n 0, 1) := by decide +kernel
theorem dX7_again_12 : decode cX7_again 12 = .ok (.getfield 41, 3) := by decide +kernel
theorem dX7_again_15 : decode cX7_again 15 = .ok (.iload_n 1, 1) := by decide +kernel
theorem dX7_again_16 : decode cX7_again 16 = .ok (.invokevirtual 174, 3) := by decide +kernel
theorem dX7_again_19 : decode cX7_again 19 = .ok (.goto 5, 3) := by decide +kernel
theorem dX7_again_22 : decode cX7_again 22 = .ok (.bipush (-2), 2) := by decide +kernel
theorem dX7_again_24 : decode cX7_again 24 = .ok (.ireturn, 1) := by decide +kernel
theorem dX7_lingers_0 : decode cX7_lingers 0 = .ok (.aload_n 0, 1) := by decide +kernel
theorem dX7_lingers_1 : decode cX7_lingers 1 = .ok (.getfield 19, 3) := by decide +kernel
theorem dX7_lingers_4 : decode cX7_lingers 4 = .ok (.iload_n 1, 1) := by decide +kernel
theorem dX7_lingers_5 : decode cX7_lingers 5 = .ok (.invokevirtual 122, 3) := by decide +kernel
theorem dX7_lingers_8 : decode cX7_lingers 8 = .ok (.ifCond .eq 14, 3) := by decide +kernel
theorem dX7_lingers_11 : decode cX7_lingers 11 = .ok (.aload_n 0, 1) := by decide +kernel
theorem dX7_lingers_12 : decode cX7_lingers 12 = .ok (.getfield 41, 3) := by decide +kernel
theorem dX7_lingers_15 : decode cX7_lingers 15 = .ok (.iload_n 1, 1) := by decide +kernel
theorem dX7_lingers_16 : decode cX7_lingers 16 = .ok (.invokevirtual 177, 3) := by decide +kernel
theorem dX7_lingers_19 : decode cX7_lingers 19 = .ok (.goto 5, 3) := by decide +kernel
theorem dX7_lingers_22 : decode cX7_lingers 22 = .ok (.bipush (-2), 2) := by decide +kernel
theorem dX7_lingers_24 : decode cX7_lingers 24 = .ok (.ireturn, 1) := by decide +kernel
theorem dX7_doors_0 : decode cX7_doors 0 = .ok (.aload_n 0, 1) := by decide +kernel
theorem dX7_doors_1 : decode cX7_doors 1 = .ok (.getfield 19, 3) := by decide +kernel
theorem dX7_doors_4 : decode cX7_doors 4 = .ok (.iload_n 1, 1) := by decide +kernel
theorem dX7_doors_5 : decode cX7_doors 5 = .ok (.invokevirtual 106, 3) := by decide +kernel
theorem dX7_doors_8 : decode cX7_doors 8 = .ok (.ifCond .eq 14, 3) := by decide +kernel
theorem dX7_doors_11 : decode cX7_doors 11 = .ok (.aload_n 0, 1) := by decide +kernel
theorem dX7_doors_12 : decode cX7_doors 12 = .ok (.getfield 19, 3) := by decide +kernel
theorem dX7_doors_15 : decode cX7_doors 15 = .ok (.iload_n 1, 1) := by decide +kernel
theorem dX7_doors_16 : decode cX7_doors 16 = .ok (.invokevirtual 180, 3) := by decide +kernel
theorem dX7_doors_19 : decode cX7_doors 19 = .ok (.goto 5, 3) := by decide +kernel
theorem dX7_doors_22 : decode cX7_doors 22 = .ok (.bipush (-2), 2) := by decide +kernel
theorem dX7_doors_24 : decode cX7_doors 24 = .ok (.ireturn, 1) := by decide +kernel
theorem dX7_guests_0 : decode cX7_guests 0 = .ok (.aload_n 0, 1) := by decide +kernel
theorem dX7_guests_1 : decode cX7_guests 1 = .ok (.getfield 19, 3) := by decide +kernel
theorem dX7_guests_4 : decode cX7_guests 4 = .ok (.iload_n 1, 1) := by decide +kernel
theorem dX7_guests_5 : decode cX7_guests 5 = .ok (.invokevirtual 99, 3) := by decide +kernel
theorem dX7_guests_8 : decode cX7_guests 8 = .ok (.ifCond .eq 14, 3) := by decide +kernel
theorem dX7_guests_11 : decode cX7_guests 11 = .ok (.aload_n 0, 1) := by decide +kernel
theorem dX7_guests_12 : decode cX7_guests 12 = .ok (.getfield 19, 3) := by decide +kernel
theorem dX7_guests_15 : decode cX7_guests 15 = .ok (.iload_n 2, 1) := by decide +kernel
theorem dX7_guests_16 : decode cX7_guests 16 = .ok (.invokevirtual 134, 3) := by decide +kernel
theorem dX7_guests_19 : decode cX7_guests 19 = .ok (.ifCond .ne 6, 3) := by decide +kernel
theorem dX7_guests_22 : decode cX7_guests 22 = .ok (.bipush (-2), 2) := by decide +kernel
theorem dX7_guests_24 : decode cX7_guests 24 = .ok (.ireturn, 1) := by decide +kernel
theorem dX7_guests_25 : decode cX7_guests 25 = .ok (.aload_n 0, 1) := by decide +kernel
theorem dX7_guests_26 : decode cX7_guests 26 = .ok (.getfield 41, 3) := by decide +kernel
theorem dX7_guests_29 : decode cX7_guests 29 = .ok (.iload_n 1, 1) := by decide +kernel
theorem dX7_guests_30 : decode cX7_guests 30 = .ok (.iload_n 2, 1) := by decide +kernel
theorem dX7_guests_31 : decode cX7_guests 31 = .ok (.invokevirtual 183, 3) := by decide +kernel
theorem dX7_guests_34 : decode cX7_guests 34 = .ok (.ireturn, 1) := by decide +kernel
theorem dX7_full_0 : decode cX7_full 0 = .ok (.aload_n 0, 1) := by decide +kernel
theorem dX7_full_1 : decode cX7_full 1 = .ok (.getfield 19, 3) := by decide +kernel
theorem dX7_full_4 : decode cX7_full 4 = .ok (.iload_n 1, 1) := by decide +kernel
theorem dX7_full_5 : decode cX7_full 5 = .ok (.invokevirtual 99, 3) := by decide +kernel
theorem dX7_full_8 : decode cX7_full 8 = .ok (.ifCond .eq 14, 3) := by decide +kernel
theorem dX7_full_11 : decode cX7_full 11 = .ok (.aload_n 0, 1) := by decide +kernel
theorem dX7_full_12 : decode cX7_full 12 = .ok (.getfield 41, 3) := by decide +kernel
theorem dX7_full_15 : decode cX7_full 15 = .ok (.iload_n 1, 1) := by decide +kernel
theorem dX7_full_16 : decode cX7_full 16 = .ok (.invokevirtual 186, 3) := by decide +kernel
theorem dX7_full_19 : decode cX7_full 19 = .ok (.goto 5, 3) := by decide +kernel
theorem dX7_full_22 : decode cX7_full 22 = .ok (.bipush (-2), 2) := by decide +kernel
theorem dX7_full_24 : decode cX7_full 24 = .ok (.ireturn, 1) := by decide +kernel
theorem dX7_inside_0 : decode cX7_inside 0 = .ok (.aload_n 0, 1) := by decide +kernel
theorem dX7_inside_1 : decode cX7_inside 1 = .ok (.getfield 19, 3) := by decide +kernel
theorem dX7_inside_4 : decode cX7_inside 4 = .ok (.iload_n 1, 1) := by decide +kernel
theorem dX7_inside_5 : decode cX7_inside 5 = .ok (.invokevirtual 134, 3) := by decide +kernel
theorem dX7_inside_8 : decode cX7_inside 8 = .ok (.ifCond .eq 14, 3) := by decide +kernel
theorem dX7_inside_11 : decode cX7_inside 11 = .ok (.aload_n 0, 1) := by decide +kernel
theorem dX7_inside_12 : decode cX7_inside 12 = .ok (.getfield 41, 3) := by decide +kernel
theorem dX7_inside_15 : decode cX7_inside 15 = .ok (.iload_n 1, 1) := by decide +kernel
theorem dX7_inside_16 : decode cX7_inside 16 = .ok (.invokevirtual 192, 3) := by decide +kernel
theorem dX7_inside_19 : decode cX7_inside 19 = .ok (.goto 5, 3) := by decide +kernel
theorem dX7_inside_22 : decode cX7_inside 22 = .ok (.bipush (-2), 2) := by decide +kernel
theorem dX7_inside_24 : decode cX7_inside 24 = .ok (.ireturn, 1) := by decide +kernel
theorem dX7_outside_0 : decode cX7_outside 0 = .ok (.aload_n 0, 1) := by decide +kernel
theorem dX7_outside_1 : decode cX7_outside 1 = .ok (.getfield 19, 3) := by decide +kernel
theorem dX7_outside_4 : decode cX7_outside 4 = .ok (.iload_n 1, 1) := by decide +kernel
theorem dX7_outside_5 : decode cX7_outside 5 = .ok (.invokevirtual 134, 3) := by decide +kernel
theorem dX7_outside_8 : decode cX7_outside 8 = .ok (.ifCond .eq 14, 3) := by decide +kernel
theorem dX7_outside_11 : decode cX7_outside 11 = .ok (.aload_n 0, 1) := by decide +kernel
theorem dX7_outside_12 : decode cX7_outside 12 = .ok (.getfield 41, 3) := by decide +kernel
theorem dX7_outside_15 : decode cX7_outside 15 = .ok (.iload_n 1, 1) := by decide +kernel
theorem dX7_outside_16 : decode cX7_outside 16 = .ok (.invokevirtual 195, 3) := by decide +kernel
theorem dX7_outside_19 : decode cX7_outside 19 = .ok (.goto 5, 3) := by decide +kernel
theorem dX7_outside_22 : decode cX7_outside 22 = .ok (.bipush (-2), 2) := by decide +kernel
theorem dX7_outside_24 : decode cX7_outside 24 = .ok (.ireturn, 1) := by decide +kernel
theorem dX7_done_0 : decode cX7_done 0 = .ok (.aload_n 0, 1) := by decide +kernel
theorem dX7_done_1 : decode cX7_done 1 = .ok (.getfield 19, 3) := by decide +kernel
theorem dX7_done_4 : decode cX7_done 4 = .ok (.invokevirtual 198, 3) := by decide +kernel
theorem dX7_done_7 : decode cX7_done 7 = .ok (.ifCond .eq 13, 3) := by decide +kernel
theorem dX7_done_10 : decode cX7_done 10 = .ok (.aload_n 0, 1) := by decide +kernel
theorem dX7_done_11 : decode cX7_done 11 = .ok (.getfield 41, 3) := by decide +kernel
theorem dX7_done_14 : decode cX7_done 14 = .ok (.invokevirtual 202, 3) := by decide +kernel
theorem dX7_done_17 : decode cX7_done 17 = .ok (.goto 5, 3) := by decide +kernel
theorem dX7_done_20 : decode cX7_done 20 = .ok (.bipush (-2), 2) := by decide +kernel
theorem dX7_done_22 : decode cX7_done 22 = .ok (.ireturn, 1) := by decide +kernel
theorem dX7_crowd_0 : decode cX7_crowd 0 = .ok (.aload_n 0, 1) := by decide +kernel
theorem dX7_crowd_1 : decode cX7_crowd 1 = .ok (.getfield 19, 3) := by decide +kernel
theorem dX7_crowd_4 : decode cX7_crowd 4 = .ok (.iload_n 1, 1) := by decide +kernel
theorem dX7_crowd_5 : decode cX7_crowd 5 = .ok (.invokevirtual 134, 3) := by decide +kernel
theorem dX7_crowd_8 : decode cX7_crowd 8 = .ok (.ifCond .eq 14, 3) := by decide +kernel
theorem dX7_crowd_11 : decode cX7_crowd 11 = .ok (.aload_n 0, 1) := by decide +kernel
theorem dX7_crowd_12 : decode cX7_crowd 12 = .ok (.getfield 41, 3) := by decide +kernel
theorem dX7_crowd_15 : decode cX7_crowd 15 = .ok (.iload_n 1, 1) := by decide +kernel
theorem dX7_crowd_16 : decode cX7_crowd 16 = .ok (.invokevirtual 206, 3) := by decide +kernel
theorem dX7_crowd_19 : decode cX7_crowd 19 = .ok (.goto 5, 3) := by decide +kernel
theorem dX7_crowd_22 : decode cX7_crowd 22 = .ok (.bipush (-2), 2) := by decide +kernel
theorem dX7_crowd_24 : decode cX7_crowd 24 = .ok (.ireturn, 1) := by decide +kernel
theorem dX7_armless_0 : decode cX7_armless 0 = .ok (.aload_n 0, 1) := by decide +kernel
theorem dX7_armless_1 : decode cX7_armless 1 = .ok (.getfield 19, 3) := by decide +kernel
theorem dX7_armless_4 : decode cX7_armless 4 = .ok (.invokevirtual 198, 3) := by decide +kernel
theorem dX7_armless_7 : decode cX7_armless 7 = .ok (.ifCond .eq 13, 3) := by decide +kernel
theorem dX7_armless_10 : decode cX7_armless 10 = .ok (.aload_n 0, 1) := by decide +kernel
theorem dX7_armless_11 : decode cX7_armless 11 = .ok (.getfield 19, 3) := by decide +kernel
theorem dX7_armless_14 : decode cX7_armless 14 = .ok (.invokevirtual 209, 3) := by decide +kernel
theorem dX7_armless_17 : decode cX7_armless 17 = .ok (.goto 5, 3) := by decide +kernel
theorem dX7_armless_20 : decode cX7_armless 20 = .ok (.bipush (-2), 2) := by decide +kernel
theorem dX7_armless_22 : decode cX7_armless 22 = .ok (.ireturn, 1) := by decide +kernel
theorem dX7_busy_0 : decode cX7_busy 0 = .ok (.aload_n 0, 1) := by decide +kernel
theorem dX7_busy_1 : decode cX7_busy 1 = .ok (.getfield 19, 3) := by decide +kernel
theorem dX7_busy_4 : decode cX7_busy 4 = .ok (.invokevirtual 198, 3) := by decide +kernel
theorem dX7_busy_7 : decode cX7_busy 7 = .ok (.ifCond .ne 6, 3) := by decide +kernel
theorem dX7_busy_10 : decode cX7_busy 10 = .ok (.bipush (-2), 2) := by decide +kernel
theorem dX7_busy_12 : decode cX7_busy 12 = .ok (.ireturn, 1) := by decide +kernel
theorem dX7_busy_13 : decode cX7_busy 13 = .ok (.iconst (-1), 1) := by decide +kernel
theorem dX7_busy_14 : decode cX7_busy 14 = .ok (.istore_n 1, 1) := by decide +kernel
theorem dX7_busy_15 : decode cX7_busy 15 = .ok (.iconst (-1), 1) := by decide +kernel
theorem dX7_busy_16 : decode cX7_busy 16 = .ok (.istore_n 2, 1) := by decide +kernel
theorem dX7_busy_17 : decode cX7_busy 17 = .ok (.iconst 0, 1) := by decide +kernel
theorem dX7_busy_18 : decode cX7_busy 18 = .ok (.istore_n 3, 1) := by decide +kernel
theorem dX7_busy_19 : decode cX7_busy 19 = .ok (.iload_n 3, 1) := by decide +kernel
theorem dX7_busy_20 : decode cX7_busy 20 = .ok (.aload_n 0, 1) := by decide +kernel
theorem dX7_busy_21 : decode cX7_busy 21 = .ok (.getfield 19, 3) := by decide +kernel
theorem dX7_busy_24 : decode cX7_busy 24 = .ok (.getfield 219, 3) := by decide +kernel
theorem dX7_busy_27 : decode cX7_busy 27 = .ok (.if_icmp .ge 30, 3) := by decide +kernel
theorem dX7_busy_30 : decode cX7_busy 30 = .ok (.aload_n 0, 1) := by decide +kernel
theorem dX7_busy_31 : decode cX7_busy 31 = .ok (.getfield 41, 3) := by decide +kernel
theorem dX7_busy_34 : decode cX7_busy 34 = .ok (.iload_n 3, 1) := by decide +kernel
theorem dX7_busy_35 : decode cX7_busy 35 = .ok (.invokevirtual 156, 3) := by decide +kernel
theorem dX7_busy_38 : decode cX7_busy 38 = .ok (.istore 4, 2) := by decide +kernel
theorem dX7_busy_40 : decode cX7_busy 40 = .ok (.iload 4, 2) := by decide +kernel
theorem dX7_busy_42 : decode cX7_busy 42 = .ok (.iload_n 2, 1) := by decide +kernel
theorem dX7_busy_43 : decode cX7_busy 43 = .ok (.if_icmp .le 8, 3) := by decide +kernel
theorem dX7_busy_46 : decode cX7_busy 46 = .ok (.iload 4, 2) := by decide +kernel
theorem dX7_busy_48 : decode cX7_busy 48 = .ok (.istore_n 2, 1) := by decide +kernel
theorem dX7_busy_49 : decode cX7_busy 49 = .ok (.iload_n 3, 1) := by decide +kernel
theorem dX7_busy_50 : decode cX7_busy 50 = .ok (.istore_n 1, 1) := by decide +kernel
theorem dX7_busy_51 : decode cX7_busy 51 = .ok (.iinc 3 1, 3) := by decide +kernel
theorem dX7_busy_54 : decode cX7_busy 54 = .ok (.goto (-35), 3) := by decide +kernel
theorem dX7_busy_57 : decode cX7_busy 57 = .ok (.iload_n 1, 1) := by decide +kernel
theorem dX7_busy_58 : decode cX7_busy 58 = .ok (.ireturn, 1) := by decide +kernel
theorem dX7_idle_0 : decode cX7_idle 0 = .ok (.aload_n 0, 1) := by decide +kernel
theorem dX7_idle_1 : decode cX7_idle 1 = .ok (.getfield 19, 3) := by decide +kernel
theorem dX7_idle_4 : decode cX7_idle 4 = .ok (.invokevirtual 198, 3) := by decide +kernel
theorem dX7_idle_7 : decode cX7_idle 7 = .ok (.ifCond .ne 6, 3) := by decide +kernel
theorem dX7_idle_10 : decode cX7_idle 10 = .ok (.bipush (-2), 2) := by decide +kernel
theorem dX7_idle_12 : decode cX7_idle 12 = .ok (.ireturn, 1) := by decide +kernel
theorem dX7_idle_13 : decode cX7_idle 13 = .ok (.iconst 0, 1) := by decide +kernel
theorem dX7_idle_14 : decode cX7_idle 14 = .ok (.istore_n 1, 1) := by decide +kernel
theorem dX7_idle_15 : decode cX7_idle 15 = .ok (.iconst 0, 1) := by decide +kernel
theorem dX7_idle_16 : decode cX7_idle 16 = .ok (.istore_n 2, 1) := by decide +kernel
theorem dX7_idle_17 : decode cX7_idle 17 = .ok (.iload_n 2, 1) := by decide +kernel
theorem dX7_idle_18 : decode cX7_idle 18 = .ok (.aload_n 0, 1) := by decide +kernel
theorem dX7_idle_19 : decode cX7_idle 19 = .ok (.getfield 19, 3) := by decide +kernel
theorem dX7_idle_22 : decode cX7_idle 22 = .ok (.getfield 219, 3) := by decide +kernel
theorem dX7_idle_25 : decode cX7_idle 25 = .ok (.if_icmp .ge 26, 3) := by decide +kernel
theorem dX7_idle_28 : decode cX7_idle 28 = .ok (.aload_n 0, 1) := by decide +kernel
theorem dX7_idle_29 : decode cX7_idle 29 = .ok (.getfield 41, 3) := by decide +kernel
theorem dX7_idle_32 : decode cX7_idle 32 = .ok (.iload_n 2, 1) := by decide +kernel
theorem dX7_idle_33 : decode cX7_idle 33 = .ok (.invokevirtual 156, 3) := by decide +kernel
theorem dX7_idle_36 : decode cX7_idle 36 = .ok (.ifCond .ne 9, 3) := by decide +kernel
theorem dX7_idle_39 : decode cX7_idle 39 = .ok (.iload_n 1, 1) := by decide +kernel
theorem dX7_idle_40 : decode cX7_idle 40 = .ok (.iconst 1, 1) := by decide +kernel
theorem dX7_idle_41 : decode cX7_idle 41 = .ok (.iload_n 2, 1) := by decide +kernel
theorem dX7_idle_42 : decode cX7_idle 42 = .ok (.ishl, 1) := by decide +kernel
theorem dX7_idle_43 : decode cX7_idle 43 = .ok (.ior, 1) := by decide +kernel
theorem dX7_idle_44 : decode cX7_idle 44 = .ok (.istore_n 1, 1) := by decide +kernel
theorem dX7_idle_45 : decode cX7_idle 45 = .ok (.iinc 2 1, 3) := by decide +kernel
theorem dX7_idle_48 : decode cX7_idle 48 = .ok (.goto (-31), 3) := by decide +kernel
theorem dX7_idle_51 : decode cX7_idle 51 = .ok (.iload_n 1, 1) := by decide +kernel
theorem dX7_idle_52 : decode cX7_idle 52 = .ok (.ireturn, 1) := by decide +kernel
theorem dX7_reach_0 : decode cX7_reach 0 = .ok (.aload_n 0, 1) := by decide +kernel
theorem dX7_reach_1 : decode cX7_reach 1 = .ok (.getfield 19, 3) := by decide +kernel
theorem dX7_reach_4 : decode cX7_reach 4 = .ok (.iload_n 1, 1) := by decide +kernel
theorem dX7_reach_5 : decode cX7_reach 5 = .ok (.invokevirtual 106, 3) := by decide +kernel
theorem dX7_reach_8 : decode cX7_reach 8 = .ok (.ifCond .eq 14, 3) := by decide +kernel
theorem dX7_reach_11 : decode cX7_reach 11 = .ok (.aload_n 0, 1) := by decide +kernel
theorem dX7_reach_12 : decode cX7_reach 12 = .ok (.getfield 19, 3) := by decide +kernel
theorem dX7_reach_15 : decode cX7_reach 15 = .ok (.iload_n 1, 1) := by decide +kernel
theorem dX7_reach_16 : decode cX7_reach 16 = .ok (.invokevirtual 222, 3) := by decide +kernel
theorem dX7_reach_19 : decode cX7_reach 19 = .ok (.goto 5, 3) := by decide +kernel
theorem dX7_reach_22 : decode cX7_reach 22 = .ok (.bipush (-2), 2) := by decide +kernel
theorem dX7_reach_24 : decode cX7_reach 24 = .ok (.ireturn, 1) := by decide +kernel
theorem dX7_far_0 : decode cX7_far 0 = .ok (.aload_n 0, 1) := by decide +kernel
theorem dX7_far_1 : decode cX7_far 1 = .ok (.getfield 19, 3) := by decide +kernel
theorem dX7_far_4 : decode cX7_far 4 = .ok (.iload_n 1, 1) := by decide +kernel
theorem dX7_far_5 : decode cX7_far 5 = .ok (.invokevirtual 106, 3) := by decide +kernel
theorem dX7_far_8 : decode cX7_far 8 = .ok (.ifCond .eq 14, 3) := by decide +kernel
theorem dX7_far_11 : decode cX7_far 11 = .ok (.aload_n 0, 1) := by decide +kernel
theorem dX7_far_12 : decode cX7_far 12 = .ok (.getfield 19, 3) := by decide +kernel
theorem dX7_far_15 : decode cX7_far 15 = .ok (.iload_n 2, 1) := by decide +kernel
theorem dX7_far_16 : decode cX7_far 16 = .ok (.invokevirtual 143, 3) := by decide +kernel
theorem dX7_far_19 : decode cX7_far 19 = .ok (.ifCond .ne 6, 3) := by decide +kernel
theorem dX7_far_22 : decode cX7_far 22 = .ok (.bipush (-2), 2) := by decide +kernel
theorem dX7_far_24 : decode cX7_far 24 = .ok (.ireturn, 1) := by decide +kernel
theorem dX7_far_25 : decode cX7_far 25 = .ok (.aload_n 0, 1) := by decide +kernel
theorem dX7_far_26 : decode cX7_far 26 = .ok (.getfield 19, 3) := by decide +kernel
theorem dX7_far_29 : decode cX7_far 29 = .ok (.iload_n 1, 1) := by decide +kernel
theorem dX7_far_30 : decode cX7_far 30 = .ok (.iload_n 2, 1) := by decide +kernel
theorem dX7_far_31 : decode cX7_far 31 = .ok (.invokevirtual 225, 3) := by decide +kernel
theorem dX7_far_34 : decode cX7_far 34 = .ok (.ireturn, 1) := by decide +kernel
theorem dX7_setting_0 : decode cX7_setting 0 = .ok (.aload_n 0, 1) := by decide +kernel
theorem dX7_setting_1 : decode cX7_setting 1 = .ok (.getfield 19, 3) := by decide +kernel
theorem dX7_setting_4 : decode cX7_setting 4 = .ok (.iload_n 1, 1) := by decide +kernel
theorem dX7_setting_5 : decode cX7_setting 5 = .ok (.invokevirtual 134, 3) := by decide +kernel
theorem dX7_setting_8 : decode cX7_setting 8 = .ok (.ifCond .eq 11, 3) := by decide +kernel
theorem dX7_setting_11 : decode cX7_setting 11 = .ok (.aload_n 0, 1) := by decide +kernel
theorem dX7_setting_12 : decode cX7_setting 12 = .ok (.iload_n 1, 1) := by decide +kernel
theorem dX7_setting_13 : decode cX7_setting 13 = .ok (.invokevirtual 228, 3) := by decide +kernel
theorem dX7_setting_16 : decode cX7_setting 16 = .ok (.goto 5, 3) := by decide +kernel
theorem dX7_setting_19 : decode cX7_setting 19 = .ok (.bipush (-2), 2) := by decide +kernel
theorem dX7_setting_21 : decode cX7_setting 21 = .ok (.ireturn, 1) := by decide +kernel
theorem dX7_settings_0 : decode cX7_settings 0 = .ok (.aload_n 0, 1) := by decide +kernel
theorem dX7_settings_1 : decode cX7_settings 1 = .ok (.getfield 19, 3) := by decide +kernel
theorem dX7_settings_4 : decode cX7_settings 4 = .ok (.invokevirtual 198, 3) := by decide +kernel
theorem dX7_settings_7 : decode cX7_settings 7 = .ok (.ifCond .eq 13, 3) := by decide +kernel
theorem dX7_settings_10 : decode cX7_settings 10 = .ok (.aload_n 0, 1) := by decide +kernel
theorem dX7_settings_11 : decode cX7_settings 11 = .ok (.getfield 19, 3) := by decide +kernel
theorem dX7_settings_14 : decode cX7_settings 14 = .ok (.invokevirtual 231, 3) := by decide +kernel
theorem dX7_settings_17 : decode cX7_settings 17 = .ok (.goto 5, 3) := by decide +kernel
theorem dX7_settings_20 : decode cX7_settings 20 = .ok (.bipush (-2), 2) := by decide +kernel
theorem dX7_settings_22 : decode cX7_settings 22 = .ok (.ireturn, 1) := by decide +kernel
theorem dX7_same_0 : decode cX7_same 0 = .ok (.aload_n 0, 1) := by decide +kernel
theorem dX7_same_1 : decode cX7_same 1 = .ok (.getfield 19, 3) := by decide +kernel
theorem dX7_same_4 : decode cX7_same 4 = .ok (.invokevirtual 198, 3) := by decide +kernel
theorem dX7_same_7 : decode cX7_same 7 = .ok (.ifCond .ne 6, 3) := by decide +kernel
theorem dX7_same_10 : decode cX7_same 10 = .ok (.bipush (-2), 2) := by decide +kernel
theorem dX7_same_12 : decode cX7_same 12 = .ok (.ireturn, 1) := by decide +kernel
theorem dX7_same_13 : decode cX7_same 13 = .ok (.aload_n 0, 1) := by decide +kernel
theorem dX7_same_14 : decode cX7_same 14 = .ok (.iconst 0, 1) := by decide +kernel
theorem dX7_same_15 : decode cX7_same 15 = .ok (.invokevirtual 228, 3) := by decide +kernel
theorem dX7_same_18 : decode cX7_same 18 = .ok (.istore_n 1, 1) := by decide +kernel
theorem dX7_same_19 : decode cX7_same 19 = .ok (.iconst 1, 1) := by decide +kernel
theorem dX7_same_20 : decode cX7_same 20 = .ok (.istore_n 2, 1) := by decide +kernel
theorem dX7_same_21 : decode cX7_same 21 = .ok (.iload_n 2, 1) := by decide +kernel
theorem dX7_same_22 : decode cX7_same 22 = .ok (.aload_n 0, 1) := by decide +kernel
theorem dX7_same_23 : decode cX7_same 23 = .ok (.getfield 19, 3) := by decide +kernel
theorem dX7_same_26 : decode cX7_same 26 = .ok (.getfield 168, 3) := by decide +kernel
theorem dX7_same_29 : decode cX7_same 29 = .ok (.if_icmp .gt 20, 3) := by decide +kernel
theorem dX7_same_32 : decode cX7_same 32 = .ok (.aload_n 0, 1) := by decide +kernel
theorem dX7_same_33 : decode cX7_same 33 = .ok (.iload_n 2, 1) := by decide +kernel
theorem dX7_same_34 : decode cX7_same 34 = .ok (.invokevirtual 228, 3) := by decide +kernel
theorem dX7_same_37 : decode cX7_same 37 = .ok (.iload_n 1, 1) := by decide +kernel
theorem dX7_same_38 : decode cX7_same 38 = .ok (.if_icmp .ne 5, 3) := by decide +kernel
theorem dX7_same_41 : decode cX7_same 41 = .ok (.iload_n 2, 1) := by decide +kernel
theorem dX7_same_42 : decode cX7_same 42 = .ok (.ireturn, 1) := by decide +kernel
theorem dX7_same_43 : decode cX7_same 43 = .ok (.iinc 2 1, 3) := by decide +kernel
theorem dX7_same_46 : decode cX7_same 46 = .ok (.goto (-25), 3) := by decide +kernel
theorem dX7_same_49 : decode cX7_same 49 = .ok (.iconst (-1), 1) := by decide +kernel
theorem dX7_same_50 : decode cX7_same 50 = .ok (.ireturn, 1) := by decide +kernel
theorem dX7_alone_0 : decode cX7_alone 0 = .ok (.aload_n 0, 1) := by decide +kernel
theorem dX7_alone_1 : decode cX7_alone 1 = .ok (.getfield 19, 3) := by decide +kernel
theorem dX7_alone_4 : decode cX7_alone 4 = .ok (.iload_n 1, 1) := by decide +kernel
theorem dX7_alone_5 : decode cX7_alone 5 = .ok (.invokevirtual 106, 3) := by decide +kernel
theorem dX7_alone_8 : decode cX7_alone 8 = .ok (.ifCond .ne 6, 3) := by decide +kernel
theorem dX7_alone_11 : decode cX7_alone 11 = .ok (.bipush (-2), 2) := by decide +kernel
theorem dX7_alone_13 : decode cX7_alone 13 = .ok (.ireturn, 1) := by decide +kernel
theorem dX7_alone_14 : decode cX7_alone 14 = .ok (.aload_n 0, 1) := by decide +kernel
theorem dX7_alone_15 : decode cX7_alone 15 = .ok (.getfield 51, 3) := by decide +kernel
theorem dX7_alone_18 : decode cX7_alone 18 = .ok (.invokevirtual 234, 3) := by decide +kernel
theorem dX7_alone_21 : decode cX7_alone 21 = .ok (.aload_n 0, 1) := by decide +kernel
theorem dX7_alone_22 : decode cX7_alone 22 = .ok (.getfield 51, 3) := by decide +kernel
theorem dX7_alone_25 : decode cX7_alone 25 = .ok (.iload_n 1, 1) := by decide +kernel
theorem dX7_alone_26 : decode cX7_alone 26 = .ok (.invokevirtual 237, 3) := by decide +kernel
theorem dX7_alone_29 : decode cX7_alone 29 = .ok (.ireturn, 1) := by decide +kernel
theorem dX7_steps_0 : decode cX7_steps 0 = .ok (.aload_n 0, 1) := by decide +kernel
theorem dX7_steps_1 : decode cX7_steps 1 = .ok (.getfield 19, 3) := by decide +kernel
theorem dX7_steps_4 : decode cX7_steps 4 = .ok (.iload_n 1, 1) := by decide +kernel
theorem dX7_steps_5 : decode cX7_steps 5 = .ok (.invokevirtual 106, 3) := by decide +kernel
theorem dX7_steps_8 : decode cX7_steps 8 = .ok (.ifCond .ne 6, 3) := by decide +kernel
theorem dX7_steps_11 : decode cX7_steps 11 = .ok (.bipush (-2), 2) := by decide +kernel
theorem dX7_steps_13 : decode cX7_steps 13 = .ok (.ireturn, 1) := by decide +kernel
theorem dX7_steps_14 : decode cX7_steps 14 = .ok (.aload_n 0, 1) := by decide +kernel
theorem dX7_steps_15 : decode cX7_steps 15 = .ok (.getfield 51, 3) := by decide +kernel
theorem dX7_steps_18 : decode cX7_steps 18 = .ok (.invokevirtual 234, 3) := by decide +kernel
theorem dX7_steps_21 : decode cX7_steps 21 = .ok (.aload_n 0, 1) := by decide +kernel
theorem dX7_steps_22 : decode cX7_steps 22 = .ok (.getfield 51, 3) := by decide +kernel
theorem dX7_steps_25 : decode cX7_steps 25 = .ok (.iload_n 1, 1) := by decide +kernel
theorem dX7_steps_26 : decode cX7_steps 26 = .ok (.invokevirtual 237, 3) := by decide +kernel
theorem dX7_steps_29 : decode cX7_steps 29 = .ok (.iconst (-1), 1) := by decide +kernel
theorem dX7_steps_30 : decode cX7_steps 30 = .ok (.if_icmp .ne 7, 3) := by decide +kernel
theorem dX7_steps_33 : decode cX7_steps 33 = .ok (.iconst (-1), 1) := by decide +kernel
theorem dX7_steps_34 : decode cX7_steps 34 = .ok (.goto 10, 3) := by decide +kernel
theorem dX7_steps_37 : decode cX7_steps 37 = .ok (.aload_n 0, 1) := by decide +kernel
theorem dX7_steps_38 : decode cX7_steps 38 = .ok (.getfield 51, 3) := by decide +kernel
theorem dX7_steps_41 : decode cX7_steps 41 = .ok (.getfield 240, 3) := by decide +kernel
theorem dX7_steps_44 : decode cX7_steps 44 = .ok (.ireturn, 1) := by decide +kernel
theorem dX7_behind_0 : decode cX7_behind 0 = .ok (.aload_n 0, 1) := by decide +kernel
theorem dX7_behind_1 : decode cX7_behind 1 = .ok (.getfield 19, 3) := by decide +kernel
theorem dX7_behind_4 : decode cX7_behind 4 = .ok (.iload_n 1, 1) := by decide +kernel
theorem dX7_behind_5 : decode cX7_behind 5 = .ok (.invokevirtual 106, 3) := by decide +kernel
theorem dX7_behind_8 : decode cX7_behind 8 = .ok (.ifCond .ne 6, 3) := by decide +kernel
theorem dX7_behind_11 : decode cX7_behind 11 = .ok (.bipush (-2), 2) := by decide +kernel
theorem dX7_behind_13 : decode cX7_behind 13 = .ok (.ireturn, 1) := by decide +kernel
theorem dX7_behind_14 : decode cX7_behind 14 = .ok (.aload_n 0, 1) := by decide +kernel
theorem dX7_behind_15 : decode cX7_behind 15 = .ok (.getfield 51, 3) := by decide +kernel
theorem dX7_behind_18 : decode cX7_behind 18 = .ok (.invokevirtual 234, 3) := by decide +kernel
theorem dX7_behind_21 : decode cX7_behind 21 = .ok (.aload_n 0, 1) := by decide +kernel
theorem dX7_behind_22 : decode cX7_behind 22 = .ok (.getfield 51, 3) := by decide +kernel
theorem dX7_behind_25 : decode cX7_behind 25 = .ok (.iload_n 1, 1) := by decide +kernel
theorem dX7_behind_26 : decode cX7_behind 26 = .ok (.invokevirtual 237, 3) := by decide +kernel
theorem dX7_behind_29 : decode cX7_behind 29 = .ok (.iconst (-1), 1) := by decide +kernel
theorem dX7_behind_30 : decode cX7_behind 30 = .ok (.if_icmp .ne 7, 3) := by decide +kernel
theorem dX7_behind_33 : decode cX7_behind 33 = .ok (.iconst (-1), 1) := by decide +kernel
theorem dX7_behind_34 : decode cX7_behind 34 = .ok (.goto 10, 3) := by decide +kernel
theorem dX7_behind_37 : decode cX7_behind 37 = .ok (.aload_n 0, 1) := by decide +kernel
theorem dX7_behind_38 : decode cX7_behind 38 = .ok (.getfield 51, 3) := by decide +kernel
theorem dX7_behind_41 : decode cX7_behind 41 = .ok (.invokevirtual 243, 3) := by decide +kernel
theorem dX7_behind_44 : decode cX7_behind 44 = .ok (.ireturn, 1) := by decide +kernel
theorem dX7_tree_0 : decode cX7_tree 0 = .ok (.aload_n 0, 1) := by decide +kernel
theorem dX7_tree_1 : decode cX7_tree 1 = .ok (.getfield 19, 3) := by decide +kernel
theorem dX7_tree_4 : decode cX7_tree 4 = .ok (.iload_n 1, 1) := by decide +kernel
theorem dX7_tree_5 : decode cX7_tree 5 = .ok (.invokevirtual 134, 3) := by decide +kernel
theorem dX7_tree_8 : decode cX7_tree 8 = .ok (.ifCond .ne 6, 3) := by decide +kernel
theorem dX7_tree_11 : decode cX7_tree 11 = .ok (.bipush (-2), 2) := by decide +kernel
theorem dX7_tree_13 : decode cX7_tree 13 = .ok (.ireturn, 1) := by decide +kernel
theorem dX7_tree_14 : decode cX7_tree 14 = .ok (.aload_n 0, 1) := by decide +kernel
theorem dX7_tree_15 : decode cX7_tree 15 = .ok (.getfield 19, 3) := by decide +kernel
theorem dX7_tree_18 : decode cX7_tree 18 = .ok (.aload_n 0, 1) := by decide +kernel
theorem dX7_tree_19 : decode cX7_tree 19 = .ok (.getfield 41, 3) := by decide +kernel
theorem dX7_tree_22 : decode cX7_tree 22 = .ok (.getfield 249, 3) := by decide +kernel
theorem dX7_tree_25 : decode cX7_tree 25 = .ok (.iload_n 1, 1) := by decide +kernel
theorem dX7_tree_26 : decode cX7_tree 26 = .ok (.bipush 7, 2) := by decide +kernel
theorem dX7_tree_28 : decode cX7_tree 28 = .ok (.imul, 1) := by decide +kernel
theorem dX7_tree_29 : decode cX7_tree 29 = .ok (.invokevirtual 252, 3) := by decide +kernel
theorem dX7_tree_32 : decode cX7_tree 32 = .ok (.ifCond .eq 7, 3) := by decide +kernel
theorem dX7_tree_35 : decode cX7_tree 35 = .ok (.iconst 1, 1) := by decide +kernel
theorem dX7_tree_36 : decode cX7_tree 36 = .ok (.goto 4, 3) := by decide +kernel
theorem dX7_tree_39 : decode cX7_tree 39 = .ok (.iconst 0, 1) := by decide +kernel
theorem dX7_tree_40 : decode cX7_tree 40 = .ok (.ireturn, 1) := by decide +kernel
theorem dX7_ring_0 : decode cX7_ring 0 = .ok (.aload_n 0, 1) := by decide +kernel
theorem dX7_ring_1 : decode cX7_ring 1 = .ok (.getfield 19, 3) := by decide +kernel
theorem dX7_ring_4 : decode cX7_ring 4 = .ok (.iload_n 1, 1) := by decide +kernel
theorem dX7_ring_5 : decode cX7_ring 5 = .ok (.invokevirtual 134, 3) := by decide +kernel
theorem dX7_ring_8 : decode cX7_ring 8 = .ok (.ifCond .eq 24, 3) := by decide +kernel
theorem dX7_ring_11 : decode cX7_ring 11 = .ok (.aload_n 0, 1) := by decide +kernel
theorem dX7_ring_12 : decode cX7_ring 12 = .ok (.getfield 19, 3) := by decide +kernel
theorem dX7_ring_15 : decode cX7_ring 15 = .ok (.aload_n 0, 1) := by decide +kernel
theorem dX7_ring_16 : decode cX7_ring 16 = .ok (.getfield 41, 3) := by decide +kernel
theorem dX7_ring_19 : decode cX7_ring 19 = .ok (.getfield 249, 3) := by decide +kernel
theorem dX7_ring_22 : decode cX7_ring 22 = .ok (.iload_n 1, 1) := by decide +kernel
theorem dX7_ring_23 : decode cX7_ring 23 = .ok (.bipush 7, 2) := by decide +kernel
theorem dX7_ring_25 : decode cX7_ring 25 = .ok (.imul, 1) := by decide +kernel
theorem dX7_ring_26 : decode cX7_ring 26 = .ok (.invokevirtual 256, 3) := by decide +kernel
theorem dX7_ring_29 : decode cX7_ring 29 = .ok (.goto 5, 3) := by decide +kernel
theorem dX7_ring_32 : decode cX7_ring 32 = .ok (.bipush (-2), 2) := by decide +kernel
theorem dX7_ring_34 : decode cX7_ring 34 = .ok (.ireturn, 1) := by decide +kernel
theorem dX7_isEither_0 : decode cX7_isEither 0 = .ok (.iload_n 0, 1) := by decide +kernel
theorem dX7_isEither_1 : decode cX7_isEither 1 = .ok (.ifCond .eq 8, 3) := by decide +kernel
theorem dX7_isEither_4 : decode cX7_isEither 4 = .ok (.iload_n 0, 1) := by decide +kernel
theorem dX7_isEither_5 : decode cX7_isEither 5 = .ok (.iconst 1, 1) := by decide +kernel
theorem dX7_isEither_6 : decode cX7_isEither 6 = .ok (.if_icmp .ne 7, 3) := by decide +kernel
theorem dX7_isEither_9 : decode cX7_isEither 9 = .ok (.iconst 1, 1) := by decide +kernel
theorem dX7_isEither_10 : decode cX7_isEither 10 = .ok (.goto 4, 3) := by decide +kernel
theorem dX7_isEither_13 : decode cX7_isEither 13 = .ok (.iconst 0, 1) := by decide +kernel
theorem dX7_isEither_14 : decode cX7_isEither 14 = .ok (.ireturn, 1) := by decide +kernel
theorem dX7_isFewInARow_0 : decode cX7_isFewInARow 0 = .ok (.iload_n 0, 1) := by decide +kernel
theorem dX7_isFewInARow_1 : decode cX7_isFewInARow 1 = .ok (.iconst 1, 1) := by decide +kernel
theorem dX7_isFewInARow_2 : decode cX7_isFewInARow 2 = .ok (.if_icmp .lt 13, 3) := by decide +kernel
theorem dX7_isFewInARow_5 : decode cX7_isFewInARow 5 = .ok (.iload_n 0, 1) := by decide +kernel
theorem dX7_isFewInARow_6 : decode cX7_isFewInARow 6 = .ok (.bipush 20, 2) := by decide +kernel
theorem dX7_isFewInARow_8 : decode cX7_isFewInARow 8 = .ok (.if_icmp .gt 7, 3) := by decide +kernel
theorem dX7_isFewInARow_11 : decode cX7_isFewInARow 11 = .ok (.iconst 1, 1) := by decide +kernel
theorem dX7_isFewInARow_12 : decode cX7_isFewInARow 12 = .ok (.goto 4, 3) := by decide +kernel
theorem dX7_isFewInARow_15 : decode cX7_isFewInARow 15 = .ok (.iconst 0, 1) := by decide +kernel
theorem dX7_isFewInARow_16 : decode cX7_isFewInARow 16 = .ok (.ireturn, 1) := by decide +kernel
theorem dX7_isSeed_0 : decode cX7_isSeed 0 = .ok (.iload_n 0, 1) := by decide +kernel
theorem dX7_isSeed_1 : decode cX7_isSeed 1 = .ok (.ifCond .lt 14, 3) := by decide +kernel
theorem dX7_isSeed_4 : decode cX7_isSeed 4 = .ok (.iload_n 0, 1) := by decide +kernel
theorem dX7_isSeed_5 : decode cX7_isSeed 5 = .ok (.ldc_w 418, 3) := by decide +kernel
theorem dX7_isSeed_8 : decode cX7_isSeed 8 = .ok (.if_icmp .gt 7, 3) := by decide +kernel
theorem dX7_isSeed_11 : decode cX7_isSeed 11 = .ok (.iconst 1, 1) := by decide +kernel
theorem dX7_isSeed_12 : decode cX7_isSeed 12 = .ok (.goto 4, 3) := by decide +kernel
theorem dX7_isSeed_15 : decode cX7_isSeed 15 = .ok (.iconst 0, 1) := by decide +kernel
theorem dX7_isSeed_16 : decode cX7_isSeed 16 = .ok (.ireturn, 1) := by decide +kernel
theorem dX7_isSlot_0 : decode cX7_isSlot 0 = .ok (.iload_n 0, 1) := by decide +kernel
theorem dX7_isSlot_1 : decode cX7_isSlot 1 = .ok (.ifCond .lt 12, 3) := by decide +kernel
theorem dX7_isSlot_4 : decode cX7_isSlot 4 = .ok (.iload_n 0, 1) := by decide +kernel
theorem dX7_isSlot_5 : decode cX7_isSlot 5 = .ok (.iconst 4, 1) := by decide +kernel
theorem dX7_isSlot_6 : decode cX7_isSlot 6 = .ok (.if_icmp .ge 7, 3) := by decide +kernel
theorem dX7_isSlot_9 : decode cX7_isSlot 9 = .ok (.iconst 1, 1) := by decide +kernel
theorem dX7_isSlot_10 : decode cX7_isSlot 10 = .ok (.goto 4, 3) := by decide +kernel
theorem dX7_isSlot_13 : decode cX7_isSlot 13 = .ok (.iconst 0, 1) := by decide +kernel
theorem dX7_isSlot_14 : decode cX7_isSlot 14 = .ok (.ireturn, 1) := by decide +kernel
theorem dX7_isFogHour_0 : decode cX7_isFogHour 0 = .ok (.aload_n 0, 1) := by decide +kernel
theorem dX7_isFogHour_1 : decode cX7_isFogHour 1 = .ok (.getfield 19, 3) := by decide +kernel
theorem dX7_isFogHour_4 : decode cX7_isFogHour 4 = .ok (.iload_n 1, 1) := by decide +kernel
theorem dX7_isFogHour_5 : decode cX7_isFogHour 5 = .ok (.invokevirtual 149, 3) := by decide +kernel
theorem dX7_isFogHour_8 : decode cX7_isFogHour 8 = .ok (.ifCond .eq 13, 3) := by decide +kernel
theorem dX7_isFogHour_11 : decode cX7_isFogHour 11 = .ok (.iload_n 1, 1) := by decide +kernel
theorem dX7_isFogHour_12 : decode cX7_isFogHour 12 = .ok (.bipush 7, 2) := by decide +kernel
theorem dX7_isFogHour_14 : decode cX7_isFogHour 14 = .ok (.if_icmp .gt 7, 3) := by decide +kernel
theorem dX7_isFogHour_17 : decode cX7_isFogHour 17 = .ok (.iconst 1, 1) := by decide +kernel
theorem dX7_isFogHour_18 : decode cX7_isFogHour 18 = .ok (.goto 4, 3) := by decide +kernel
theorem dX7_isFogHour_21 : decode cX7_isFogHour 21 = .ok (.iconst 0, 1) := by decide +kernel
theorem dX7_isFogHour_22 : decode cX7_isFogHour 22 = .ok (.ireturn, 1) := by decide +kernel
theorem dX7_settingIn_0 : decode cX7_settingIn 0 = .ok (.aload_n 0, 1) := by decide +kernel
theorem dX7_settingIn_1 : decode cX7_settingIn 1 = .ok (.getfield 19, 3) := by decide +kernel
theorem dX7_settingIn_4 : decode cX7_settingIn 4 = .ok (.aload_n 0, 1) := by decide +kernel
theorem dX7_settingIn_5 : decode cX7_settingIn 5 = .ok (.getfield 41, 3) := by decide +kernel
theorem dX7_settingIn_8 : decode cX7_settingIn 8 = .ok (.getfield 249, 3) := by decide +kernel
theorem dX7_settingIn_11 : decode cX7_settingIn 11 = .ok (.iload_n 1, 1) := by decide +kernel
theorem dX7_settingIn_12 : decode cX7_settingIn 12 = .ok (.bipush 7, 2) := by decide +kernel
theorem dX7_settingIn_14 : decode cX7_settingIn 14 = .ok (.imul, 1) := by decide +kernel
theorem dX7_settingIn_15 : decode cX7_settingIn 15 = .ok (.invokevirtual 419, 3) := by decide +kernel
theorem dX7_settingIn_18 : decode cX7_settingIn 18 = .ok (.ireturn, 1) := by decide +kernel
theorem wd183 : Cond.methodLink RX2 88 yX2_hasInn ∈ tblG := gw3 152 (by decide +kernel) (by decide +kernel)
theorem wd184 : Cond.instanceMethod yX2_hasInn ∈ tblG := gw3 90 (by decide +kernel) (by decide +kernel)
theorem wd185 : Cond.selects RX2 yX2_hasInn yX2_hasInn ∈ tblG := gw3 91 (by decide +kernel) (by decide +kernel)
theorem wd186 : Cond.code yX2_hasInn cX2_hasInn 2 (some .boolean) ∈ tblG := gw3 92 (by decide +kernel) (by decide +kernel)
theorem pl_X2_hasInn : Plain yX2_hasInn 1 := ⟨by decide, by decide, by decide +kernel⟩
theorem lk_X2_88 : LkV RX2 88 2 yX2_hasInn cX2_hasInn 2 (some .boolean) 1 := ⟨⟨TX2, 16, rfl⟩, wd183, wd184, wd185, wd7, wd186, pl_X2_hasInn⟩
theorem wd187 : Cond.methodLink RX2 84 yX2_hasPost ∈ tblG := gw3 151 (by decide +kernel) (by decide +kernel)
theorem wd188 : Cond.instanceMethod yX2_hasPost ∈ tblG := gw3 98 (by decide +kernel) (by decide +kernel)
theorem wd189 : Cond.selects RX2 yX2_hasPost yX2_hasPost ∈ tblG := gw3 99 (by decide +kernel) (by decide +kernel)
theorem wd190 : Cond.code yX2_hasPost cX2_hasPost 2 (some .boolean) ∈ tblG := gw3 100 (by decide +kernel) (by decide +kernel)
theorem pl_X2_hasPost : Plain yX2_hasPost 1 := ⟨by decide, by decide, by decide +kernel⟩
theorem lk_X2_84 : LkV RX2 84 2 yX2_hasPost cX2_hasPost 2 (some .boolean) 1 := ⟨⟨TX2, 16, rfl⟩, wd187, wd188, wd189, wd7, wd190, pl_X2_hasPost⟩
theorem wd191 : Cond.constant RX7 418 (2000000000) ∈ tblG := gw5 185 (by decide +kernel) (by decide +kernel)
theorem layX7 : ∀ k, k < 12 → u_lay RX7 TX7 k ∈ tblG := fun k hk => match k, hk with
  | 0, _ => gw2 36 (by decide +kernel) (by decide +kernel)
  | 1, _ => gw2 38 (by decide +kernel) (by decide +kernel)
  | 2, _ => gw2 40 (by decide +kernel) (by decide +kernel)
  | 3, _ => gw2 42 (by decide +kernel) (by decide +kernel)
  | 4, _ => gw2 44 (by decide +kernel) (by decide +kernel)
  | 5, _ => gw2 46 (by decide +kernel) (by decide +kernel)
  | 6, _ => gw2 48 (by decide +kernel) (by decide +kernel)
  | 7, _ => gw2 50 (by decide +kernel) (by decide +kernel)
  | 8, _ => gw2 52 (by decide +kernel) (by decide +kernel)
  | 9, _ => gw2 54 (by decide +kernel) (by decide +kernel)
  | 10, _ => gw2 56 (by decide +kernel) (by decide +kernel)
  | 11, _ => gw2 58 (by decide +kernel) (by decide +kernel)
  | k + 12, hk => absurd hk (by omega)
theorem clX7 : CLk 7 RX7 TX7 12 tyX7 := ⟨rfl, fun w hw => by
  obtain ⟨k, hk, rfl⟩ := List.mem_map.mp hw
  exact layX7 k (List.mem_range.mp hk), tyX7_ok, nmX7⟩
theorem wd192 : Cond.fieldLink RX7 19 RX7 "heath" "LObligingPosts$Heath;" ∈ tblG := gw2 25 (by decide +kernel) (by decide +kernel)
theorem fk_X7_19 : FLk RX7 19 7 1 (.object "ObligingPosts$Heath") true := ⟨RX7, TX7, 12, tyX7, clX7, by decide, rfl, rfl, rfl, Or.inl wd192⟩
theorem wd193 : Cond.methodLink RX7 149 yX2_hasHourAhead ∈ tblG := gw3 161 (by decide +kernel) (by decide +kernel)
theorem wd194 : Cond.instanceMethod yX2_hasHourAhead ∈ tblG := gw3 162 (by decide +kernel) (by decide +kernel)
theorem wd195 : Cond.selects RX2 yX2_hasHourAhead yX2_hasHourAhead ∈ tblG := gw3 163 (by decide +kernel) (by decide +kernel)
theorem wd196 : Cond.code yX2_hasHourAhead cX2_hasHourAhead 2 (some .boolean) ∈ tblG := gw3 164 (by decide +kernel) (by decide +kernel)
theorem pl_X2_hasHourAhead : Plain yX2_hasHourAhead 1 := ⟨by decide, by decide, by decide +kernel⟩
theorem lk_X7_149 : LkV RX7 149 2 yX2_hasHourAhead cX2_hasHourAhead 2 (some .boolean) 1 := ⟨⟨TX2, 16, rfl⟩, wd193, wd194, wd195, wd7, wd196, pl_X2_hasHourAhead⟩
theorem wd197 : Cond.methodLink RX7 99 yX2_hasInn ∈ tblG := gw3 89 (by decide +kernel) (by decide +kernel)
theorem lk_X7_99 : LkV RX7 99 2 yX2_hasInn cX2_hasInn 2 (some .boolean) 1 := ⟨⟨TX2, 16, rfl⟩, wd197, wd184, wd185, wd7, wd186, pl_X2_hasInn⟩
theorem fk_X7_103 : FLk RX7 103 2 9 (.array .int) true := ⟨RX2, TX2, 16, tyX2, clX2, by decide, rfl, rfl, rfl, Or.inr ⟨"ObligingPosts", List.mem_of_getElem? (i := 4) (by decide +kernel)⟩⟩
theorem wd198 : Cond.methodLink RX7 106 yX2_hasPost ∈ tblG := gw3 97 (by decide +kernel) (by decide +kernel)
theorem lk_X7_106 : LkV RX7 106 2 yX2_hasPost cX2_hasPost 2 (some .boolean) 1 := ⟨⟨TX2, 16, rfl⟩, wd198, wd188, wd189, wd7, wd190, pl_X2_hasPost⟩
theorem fk_X7_109 : FLk RX7 109 2 10 (.array .int) true := ⟨RX2, TX2, 16, tyX2, clX2, by decide, rfl, rfl, rfl, Or.inr ⟨"ObligingPosts", List.mem_of_getElem? (i := 5) (by decide +kernel)⟩⟩
theorem wd199 : Cond.methodLink RX7 112 yX2_goal ∈ tblG := gw3 105 (by decide +kernel) (by decide +kernel)
theorem lk_X7_112 : LkV RX7 112 2 yX2_goal cX2_goal 3 (some .int) 2 := ⟨⟨TX2, 16, rfl⟩, wd199, wd17, wd18, wd7, wd19, pl_X2_goal⟩
theorem wd200 : Cond.methodLink RX7 116 yX2_hasArm ∈ tblG := gw3 110 (by decide +kernel) (by decide +kernel)
theorem lk_X7_116 : LkV RX7 116 2 yX2_hasArm cX2_hasArm 2 (some .boolean) 1 := ⟨⟨TX2, 16, rfl⟩, wd200, wd21, wd22, wd7, wd23, pl_X2_hasArm⟩
theorem fk_X7_119 : FLk RX7 119 2 12 (.array .int) true := ⟨RX2, TX2, 16, tyX2, clX2, by decide, rfl, rfl, rfl, Or.inr ⟨"ObligingPosts", List.mem_of_getElem? (i := 6) (by decide +kernel)⟩⟩
theorem wd201 : Cond.methodLink RX7 122 yX2_hasWalker ∈ tblG := gw3 115 (by decide +kernel) (by decide +kernel)
theorem wd202 : Cond.instanceMethod yX2_hasWalker ∈ tblG := gw3 116 (by decide +kernel) (by decide +kernel)
theorem wd203 : Cond.selects RX2 yX2_hasWalker yX2_hasWalker ∈ tblG := gw3 117 (by decide +kernel) (by decide +kernel)
theorem wd204 : Cond.code yX2_hasWalker cX2_hasWalker 2 (some .boolean) ∈ tblG := gw3 118 (by decide +kernel) (by decide +kernel)
theorem pl_X2_hasWalker : Plain yX2_hasWalker 1 := ⟨by decide, by decide, by decide +kernel⟩
theorem lk_X7_122 : LkV RX7 122 2 yX2_hasWalker cX2_hasWalker 2 (some .boolean) 1 := ⟨⟨TX2, 16, rfl⟩, wd201, wd202, wd203, wd7, wd204, pl_X2_hasWalker⟩
theorem wd205 : Cond.methodLink RX7 125 yX7_isEither ∈ tblG := gw3 119 (by decide +kernel) (by decide +kernel)
theorem wd206 : Cond.static yX7_isEither ∈ tblG := gw3 120 (by decide +kernel) (by decide +kernel)
theorem wd207 : Cond.initialized RX7 ∈ tblG := gw1 1 (by decide +kernel) (by decide +kernel)
theorem wd208 : Cond.code yX7_isEither cX7_isEither 1 (some .boolean) ∈ tblG := gw3 121 (by decide +kernel) (by decide +kernel)
theorem pl_X7_isEither : Plain yX7_isEither 1 := ⟨by decide, by decide, by decide +kernel⟩
theorem lk_X7_125 : LkS RX7 125 yX7_isEither cX7_isEither 1 (some .boolean) 1 := ⟨wd205, wd206, wd207, wd208, pl_X7_isEither⟩
theorem fk_X7_131 : FLk RX7 131 2 14 (.array .int) true := ⟨RX2, TX2, 16, tyX2, clX2, by decide, rfl, rfl, rfl, Or.inr ⟨"ObligingPosts", List.mem_of_getElem? (i := 8) (by decide +kernel)⟩⟩
theorem fk_X7_128 : FLk RX7 128 2 13 (.array .int) true := ⟨RX2, TX2, 16, tyX2, clX2, by decide, rfl, rfl, rfl, Or.inr ⟨"ObligingPosts", List.mem_of_getElem? (i := 7) (by decide +kernel)⟩⟩
theorem wd209 : Cond.methodLink RX7 134 yX2_hasHour ∈ tblG := gw3 126 (by decide +kernel) (by decide +kernel)
theorem lk_X7_134 : LkV RX7 134 2 yX2_hasHour cX2_hasHour 2 (some .boolean) 1 := ⟨⟨TX2, 16, rfl⟩, wd209, wd11, wd12, wd7, wd13, pl_X2_hasHour⟩
theorem wd210 : Cond.fieldLink RX7 41 RX7 "now" "LObligingPosts$Night;" ∈ tblG := gw2 29 (by decide +kernel) (by decide +kernel)
theorem fk_X7_41 : FLk RX7 41 7 5 (.object "ObligingPosts$Night") true := ⟨RX7, TX7, 12, tyX7, clX7, by decide, rfl, rfl, rfl, Or.inl wd210⟩
theorem wd211 : Cond.methodLink RX7 137 yX4_placeOf ∈ tblG := gw3 134 (by decide +kernel) (by decide +kernel)
theorem lk_X7_137 : LkV RX7 137 4 yX4_placeOf cX4_placeOf 3 (some .int) 2 := ⟨⟨TX4, 9, rfl⟩, wd211, wd46, wd47, wd48, wd49, pl_X4_placeOf⟩
theorem wd212 : Cond.methodLink RX7 140 yX4_armOf ∈ tblG := gw3 139 (by decide +kernel) (by decide +kernel)
theorem wd213 : Cond.instanceMethod yX4_armOf ∈ tblG := gw3 140 (by decide +kernel) (by decide +kernel)
theorem wd214 : Cond.selects RX4 yX4_armOf yX4_armOf ∈ tblG := gw3 141 (by decide +kernel) (by decide +kernel)
theorem wd215 : Cond.code yX4_armOf cX4_armOf 3 (some .int) ∈ tblG := gw3 142 (by decide +kernel) (by decide +kernel)
theorem pl_X4_armOf : Plain yX4_armOf 2 := ⟨by decide, by decide, by decide +kernel⟩
theorem lk_X7_140 : LkV RX7 140 4 yX4_armOf cX4_armOf 3 (some .int) 2 := ⟨⟨TX4, 9, rfl⟩, wd212, wd213, wd214, wd48, wd215, pl_X4_armOf⟩
theorem wd216 : Cond.methodLink RX7 143 yX2_hasPlace ∈ tblG := gw3 147 (by decide +kernel) (by decide +kernel)
theorem wd217 : Cond.instanceMethod yX2_hasPlace ∈ tblG := gw3 148 (by decide +kernel) (by decide +kernel)
theorem wd218 : Cond.selects RX2 yX2_hasPlace yX2_hasPlace ∈ tblG := gw3 149 (by decide +kernel) (by decide +kernel)
theorem wd219 : Cond.code yX2_hasPlace cX2_hasPlace 2 (some .boolean) ∈ tblG := gw3 150 (by decide +kernel) (by decide +kernel)
theorem pl_X2_hasPlace : Plain yX2_hasPlace 1 := ⟨by decide, by decide, by decide +kernel⟩
theorem lk_X7_143 : LkV RX7 143 2 yX2_hasPlace cX2_hasPlace 2 (some .boolean) 1 := ⟨⟨TX2, 16, rfl⟩, wd216, wd217, wd218, wd7, wd219, pl_X2_hasPlace⟩
theorem wd220 : Cond.methodLink RX7 146 yX4_walkersAt ∈ tblG := gw3 153 (by decide +kernel) (by decide +kernel)
theorem lk_X7_146 : LkV RX7 146 4 yX4_walkersAt cX4_walkersAt 5 (some .int) 2 := ⟨⟨TX4, 9, rfl⟩, wd220, wd63, wd64, wd48, wd65, pl_X4_walkersAt⟩
theorem wd221 : Cond.methodLink RX7 152 yX4_walkersSent ∈ tblG := gw3 166 (by decide +kernel) (by decide +kernel)
theorem wd222 : Cond.instanceMethod yX4_walkersSent ∈ tblG := gw3 167 (by decide +kernel) (by decide +kernel)
theorem wd223 : Cond.selects RX4 yX4_walkersSent yX4_walkersSent ∈ tblG := gw3 168 (by decide +kernel) (by decide +kernel)
theorem wd224 : Cond.code yX4_walkersSent cX4_walkersSent 4 (some .int) ∈ tblG := gw3 169 (by decide +kernel) (by decide +kernel)
theorem pl_X4_walkersSent : Plain yX4_walkersSent 1 := ⟨by decide, by decide, by decide +kernel⟩
theorem lk_X7_152 : LkV RX7 152 4 yX4_walkersSent cX4_walkersSent 4 (some .int) 1 := ⟨⟨TX4, 9, rfl⟩, wd221, wd222, wd223, wd48, wd224, pl_X4_walkersSent⟩
theorem wd225 : Cond.methodLink RX7 156 yX4_timesPostSent ∈ tblG := gw3 178 (by decide +kernel) (by decide +kernel)
theorem wd226 : Cond.instanceMethod yX4_timesPostSent ∈ tblG := gw3 179 (by decide +kernel) (by decide +kernel)
theorem wd227 : Cond.selects RX4 yX4_timesPostSent yX4_timesPostSent ∈ tblG := gw3 180 (by decide +kernel) (by decide +kernel)
theorem wd228 : Cond.code yX4_timesPostSent cX4_timesPostSent 4 (some .int) ∈ tblG := gw3 181 (by decide +kernel) (by decide +kernel)
theorem pl_X4_timesPostSent : Plain yX4_timesPostSent 1 := ⟨by decide, by decide, by decide +kernel⟩
theorem lk_X7_156 : LkV RX7 156 4 yX4_timesPostSent cX4_timesPostSent 4 (some .int) 1 := ⟨⟨TX4, 9, rfl⟩, wd225, wd226, wd227, wd48, wd228, pl_X4_timesPostSent⟩
theorem wd229 : Cond.methodLink RX7 159 yX4_timesRoadUsed ∈ tblG := gw3 190 (by decide +kernel) (by decide +kernel)
theorem lk_X7_159 : LkV RX7 159 4 yX4_timesRoadUsed cX4_timesRoadUsed 6 (some .int) 2 := ⟨⟨TX4, 9, rfl⟩, wd229, wd55, wd56, wd48, wd57, pl_X4_timesRoadUsed⟩
theorem wd230 : Cond.methodLink RX7 162 yX4_timesWalked ∈ tblG := gw3 195 (by decide +kernel) (by decide +kernel)
theorem wd231 : Cond.instanceMethod yX4_timesWalked ∈ tblG := gw3 196 (by decide +kernel) (by decide +kernel)
theorem wd232 : Cond.selects RX4 yX4_timesWalked yX4_timesWalked ∈ tblG := gw3 197 (by decide +kernel) (by decide +kernel)
theorem wd233 : Cond.code yX4_timesWalked cX4_timesWalked 4 (some .int) ∈ tblG := gw3 198 (by decide +kernel) (by decide +kernel)
theorem pl_X4_timesWalked : Plain yX4_timesWalked 1 := ⟨by decide, by decide, by decide +kernel⟩
theorem lk_X7_162 : LkV RX7 162 4 yX4_timesWalked cX4_timesWalked 4 (some .int) 1 := ⟨⟨TX4, 9, rfl⟩, wd230, wd231, wd232, wd48, wd233, pl_X4_timesWalked⟩
theorem wd234 : Cond.methodLink RX7 165 yX4_firstHourHome ∈ tblG := gw3 203 (by decide +kernel) (by decide +kernel)
theorem wd235 : Cond.instanceMethod yX4_firstHourHome ∈ tblG := gw3 204 (by decide +kernel) (by decide +kernel)
theorem wd236 : Cond.selects RX4 yX4_firstHourHome yX4_firstHourHome ∈ tblG := gw3 205 (by decide +kernel) (by decide +kernel)
theorem wd237 : Cond.code yX4_firstHourHome cX4_firstHourHome 3 (some .int) ∈ tblG := gw3 206 (by decide +kernel) (by decide +kernel)
theorem pl_X4_firstHourHome : Plain yX4_firstHourHome 1 := ⟨by decide, by decide, by decide +kernel⟩
theorem lk_X7_165 : LkV RX7 165 4 yX4_firstHourHome cX4_firstHourHome 3 (some .int) 1 := ⟨⟨TX4, 9, rfl⟩, wd234, wd235, wd236, wd48, wd237, pl_X4_firstHourHome⟩
theorem fk_X7_168 : FLk RX7 168 2 1 (.int) false := ⟨RX2, TX2, 16, tyX2, clX2, by decide, rfl, rfl, rfl, Or.inr ⟨"ObligingPosts", List.mem_of_getElem? (i := 9) (by decide +kernel)⟩⟩
theorem wd238 : Cond.methodLink RX7 171 yX4_postsVisited ∈ tblG := gw3 215 (by decide +kernel) (by decide +kernel)
theorem wd239 : Cond.instanceMethod yX4_postsVisited ∈ tblG := gw3 216 (by decide +kernel) (by decide +kernel)
theorem wd240 : Cond.selects RX4 yX4_postsVisited yX4_postsVisited ∈ tblG := gw3 217 (by decide +kernel) (by decide +kernel)
theorem wd241 : Cond.code yX4_postsVisited cX4_postsVisited 4 (some .int) ∈ tblG := gw3 218 (by decide +kernel) (by decide +kernel)
theorem pl_X4_postsVisited : Plain yX4_postsVisited 1 := ⟨by decide, by decide, by decide +kernel⟩
theorem lk_X7_171 : LkV RX7 171 4 yX4_postsVisited cX4_postsVisited 4 (some .int) 1 := ⟨⟨TX4, 9, rfl⟩, wd238, wd239, wd240, wd48, wd241, pl_X4_postsVisited⟩
theorem wd242 : Cond.methodLink RX7 174 yX4_timesReturned ∈ tblG := gw3 227 (by decide +kernel) (by decide +kernel)
theorem wd243 : Cond.instanceMethod yX4_timesReturned ∈ tblG := gw3 228 (by decide +kernel) (by decide +kernel)
theorem wd244 : Cond.selects RX4 yX4_timesReturned yX4_timesReturned ∈ tblG := gw3 229 (by decide +kernel) (by decide +kernel)
theorem wd245 : Cond.code yX4_timesReturned cX4_timesReturned 6 (some .int) ∈ tblG := gw3 230 (by decide +kernel) (by decide +kernel)
theorem pl_X4_timesReturned : Plain yX4_timesReturned 1 := ⟨by decide, by decide, by decide +kernel⟩
theorem lk_X7_174 : LkV RX7 174 4 yX4_timesReturned cX4_timesReturned 6 (some .int) 1 := ⟨⟨TX4, 9, rfl⟩, wd242, wd243, wd244, wd48, wd245, pl_X4_timesReturned⟩
theorem wd246 : Cond.methodLink RX7 177 yX4_hoursLingered ∈ tblG := gw3 235 (by decide +kernel) (by decide +kernel)
theorem wd247 : Cond.instanceMethod yX4_hoursLingered ∈ tblG := gw3 236 (by decide +kernel) (by decide +kernel)
theorem wd248 : Cond.selects RX4 yX4_hoursLingered yX4_hoursLingered ∈ tblG := gw3 237 (by decide +kernel) (by decide +kernel)
theorem wd249 : Cond.code yX4_hoursLingered cX4_hoursLingered 5 (some .int) ∈ tblG := gw3 238 (by decide +kernel) (by decide +kernel)
theorem pl_X4_hoursLingered : Plain yX4_hoursLingered 1 := ⟨by decide, by decide, by decide +kernel⟩
theorem lk_X7_177 : LkV RX7 177 4 yX4_hoursLingered cX4_hoursLingered 5 (some .int) 1 := ⟨⟨TX4, 9, rfl⟩, wd246, wd247, wd248, wd48, wd249, pl_X4_hoursLingered⟩
theorem wd250 : Cond.methodLink RX7 180 yX2_innsBeside ∈ tblG := gw4 3 (by decide +kernel) (by decide +kernel)
theorem wd251 : Cond.instanceMethod yX2_innsBeside ∈ tblG := gw4 4 (by decide +kernel) (by decide +kernel)
theorem wd252 : Cond.selects RX2 yX2_innsBeside yX2_innsBeside ∈ tblG := gw4 5 (by decide +kernel) (by decide +kernel)
theorem wd253 : Cond.code yX2_innsBeside cX2_innsBeside 4 (some .int) ∈ tblG := gw4 6 (by decide +kernel) (by decide +kernel)
theorem pl_X2_innsBeside : Plain yX2_innsBeside 1 := ⟨by decide, by decide, by decide +kernel⟩
theorem lk_X7_180 : LkV RX7 180 2 yX2_innsBeside cX2_innsBeside 4 (some .int) 1 := ⟨⟨TX2, 16, rfl⟩, wd250, wd251, wd252, wd7, wd253, pl_X2_innsBeside⟩
theorem wd254 : Cond.methodLink RX7 183 yX4_guestsIn ∈ tblG := gw4 12 (by decide +kernel) (by decide +kernel)
theorem lk_X7_183 : LkV RX7 183 4 yX4_guestsIn cX4_guestsIn 3 (some .int) 2 := ⟨⟨TX4, 9, rfl⟩, wd254, wd71, wd72, wd48, wd73, pl_X4_guestsIn⟩
theorem wd255 : Cond.methodLink RX7 186 yX4_firstHourFull ∈ tblG := gw4 27 (by decide +kernel) (by decide +kernel)
theorem wd256 : Cond.instanceMethod yX4_firstHourFull ∈ tblG := gw4 28 (by decide +kernel) (by decide +kernel)
theorem wd257 : Cond.selects RX4 yX4_firstHourFull yX4_firstHourFull ∈ tblG := gw4 29 (by decide +kernel) (by decide +kernel)
theorem wd258 : Cond.code yX4_firstHourFull cX4_firstHourFull 3 (some .int) ∈ tblG := gw4 30 (by decide +kernel) (by decide +kernel)
theorem pl_X4_firstHourFull : Plain yX4_firstHourFull 1 := ⟨by decide, by decide, by decide +kernel⟩
theorem lk_X7_186 : LkV RX7 186 4 yX4_firstHourFull cX4_firstHourFull 3 (some .int) 1 := ⟨⟨TX4, 9, rfl⟩, wd255, wd256, wd257, wd48, wd258, pl_X4_firstHourFull⟩
theorem wd259 : Cond.methodLink RX7 192 yX4_walkersInside ∈ tblG := gw4 48 (by decide +kernel) (by decide +kernel)
theorem lk_X7_192 : LkV RX7 192 4 yX4_walkersInside cX4_walkersInside 4 (some .int) 1 := ⟨⟨TX4, 9, rfl⟩, wd259, wd75, wd76, wd48, wd77, pl_X4_walkersInside⟩
theorem wd260 : Cond.methodLink RX7 195 yX4_walkersOutside ∈ tblG := gw4 56 (by decide +kernel) (by decide +kernel)
theorem wd261 : Cond.instanceMethod yX4_walkersOutside ∈ tblG := gw4 57 (by decide +kernel) (by decide +kernel)
theorem wd262 : Cond.selects RX4 yX4_walkersOutside yX4_walkersOutside ∈ tblG := gw4 58 (by decide +kernel) (by decide +kernel)
theorem wd263 : Cond.code yX4_walkersOutside cX4_walkersOutside 5 (some .int) ∈ tblG := gw4 59 (by decide +kernel) (by decide +kernel)
theorem pl_X4_walkersOutside : Plain yX4_walkersOutside 1 := ⟨by decide, by decide, by decide +kernel⟩
theorem lk_X7_195 : LkV RX7 195 4 yX4_walkersOutside cX4_walkersOutside 5 (some .int) 1 := ⟨⟨TX4, 9, rfl⟩, wd260, wd261, wd262, wd48, wd263, pl_X4_walkersOutside⟩
theorem wd264 : Cond.methodLink RX7 198 yX2_isTold ∈ tblG := gw4 64 (by decide +kernel) (by decide +kernel)
theorem lk_X7_198 : LkV RX7 198 2 yX2_isTold cX2_isTold 1 (some .boolean) 0 := ⟨⟨TX2, 16, rfl⟩, wd264, wd5, wd6, wd7, wd8, pl_X2_isTold⟩
theorem wd265 : Cond.methodLink RX7 202 yX4_firstHourAllInside ∈ tblG := gw4 65 (by decide +kernel) (by decide +kernel)
theorem wd266 : Cond.instanceMethod yX4_firstHourAllInside ∈ tblG := gw4 66 (by decide +kernel) (by decide +kernel)
theorem wd267 : Cond.selects RX4 yX4_firstHourAllInside yX4_firstHourAllInside ∈ tblG := gw4 67 (by decide +kernel) (by decide +kernel)
theorem wd268 : Cond.code yX4_firstHourAllInside cX4_firstHourAllInside 3 (some .int) ∈ tblG := gw4 68 (by decide +kernel) (by decide +kernel)
theorem pl_X4_firstHourAllInside : Plain yX4_firstHourAllInside 0 := ⟨by decide, by decide, by decide +kernel⟩
theorem lk_X7_202 : LkV RX7 202 4 yX4_firstHourAllInside cX4_firstHourAllInside 3 (some .int) 0 := ⟨⟨TX4, 9, rfl⟩, wd265, wd266, wd267, wd48, wd268, pl_X4_firstHourAllInside⟩
theorem wd269 : Cond.methodLink RX7 206 yX4_mostAtOnePost ∈ tblG := gw4 74 (by decide +kernel) (by decide +kernel)
theorem wd270 : Cond.instanceMethod yX4_mostAtOnePost ∈ tblG := gw4 75 (by decide +kernel) (by decide +kernel)
theorem wd271 : Cond.selects RX4 yX4_mostAtOnePost yX4_mostAtOnePost ∈ tblG := gw4 76 (by decide +kernel) (by decide +kernel)
theorem wd272 : Cond.code yX4_mostAtOnePost cX4_mostAtOnePost 4 (some .int) ∈ tblG := gw4 77 (by decide +kernel) (by decide +kernel)
theorem pl_X4_mostAtOnePost : Plain yX4_mostAtOnePost 1 := ⟨by decide, by decide, by decide +kernel⟩
theorem lk_X7_206 : LkV RX7 206 4 yX4_mostAtOnePost cX4_mostAtOnePost 4 (some .int) 1 := ⟨⟨TX4, 9, rfl⟩, wd269, wd270, wd271, wd48, wd272, pl_X4_mostAtOnePost⟩
theorem wd273 : Cond.methodLink RX7 209 yX2_postsWithoutRoads ∈ tblG := gw4 85 (by decide +kernel) (by decide +kernel)
theorem wd274 : Cond.instanceMethod yX2_postsWithoutRoads ∈ tblG := gw4 86 (by decide +kernel) (by decide +kernel)
theorem wd275 : Cond.selects RX2 yX2_postsWithoutRoads yX2_postsWithoutRoads ∈ tblG := gw4 87 (by decide +kernel) (by decide +kernel)
theorem wd276 : Cond.code yX2_postsWithoutRoads cX2_postsWithoutRoads 3 (some .int) ∈ tblG := gw4 88 (by decide +kernel) (by decide +kernel)
theorem pl_X2_postsWithoutRoads : Plain yX2_postsWithoutRoads 0 := ⟨by decide, by decide, by decide +kernel⟩
theorem lk_X7_209 : LkV RX7 209 2 yX2_postsWithoutRoads cX2_postsWithoutRoads 3 (some .int) 0 := ⟨⟨TX2, 16, rfl⟩, wd273, wd274, wd275, wd7, wd276, pl_X2_postsWithoutRoads⟩
theorem fk_X7_219 : FLk RX7 219 2 5 (.int) false := ⟨RX2, TX2, 16, tyX2, clX2, by decide, rfl, rfl, rfl, Or.inr ⟨"ObligingPosts", List.mem_of_getElem? (i := 10) (by decide +kernel)⟩⟩
theorem wd277 : Cond.methodLink RX7 222 yX2_placesFrom ∈ tblG := gw4 114 (by decide +kernel) (by decide +kernel)
theorem wd278 : Cond.instanceMethod yX2_placesFrom ∈ tblG := gw4 115 (by decide +kernel) (by decide +kernel)
theorem wd279 : Cond.selects RX2 yX2_placesFrom yX2_placesFrom ∈ tblG := gw4 116 (by decide +kernel) (by decide +kernel)
theorem wd280 : Cond.code yX2_placesFrom cX2_placesFrom 4 (some .int) ∈ tblG := gw4 117 (by decide +kernel) (by decide +kernel)
theorem pl_X2_placesFrom : Plain yX2_placesFrom 1 := ⟨by decide, by decide, by decide +kernel⟩
theorem lk_X7_222 : LkV RX7 222 2 yX2_placesFrom cX2_placesFrom 4 (some .int) 1 := ⟨⟨TX2, 16, rfl⟩, wd277, wd278, wd279, wd7, wd280, pl_X2_placesFrom⟩
theorem wd281 : Cond.methodLink RX7 225 yX2_distance ∈ tblG := gw4 126 (by decide +kernel) (by decide +kernel)
theorem wd282 : Cond.instanceMethod yX2_distance ∈ tblG := gw4 127 (by decide +kernel) (by decide +kernel)
theorem wd283 : Cond.selects RX2 yX2_distance yX2_distance ∈ tblG := gw4 128 (by decide +kernel) (by decide +kernel)
theorem wd284 : Cond.code yX2_distance cX2_distance 5 (some .int) ∈ tblG := gw4 129 (by decide +kernel) (by decide +kernel)
theorem pl_X2_distance : Plain yX2_distance 2 := ⟨by decide, by decide, by decide +kernel⟩
theorem lk_X7_225 : LkV RX7 225 2 yX2_distance cX2_distance 5 (some .int) 2 := ⟨⟨TX2, 16, rfl⟩, wd281, wd282, wd283, wd7, wd284, pl_X2_distance⟩
theorem wd285 : Cond.fieldLink RX7 12 RX7 "tape" "LObligingPosts$Tape;" ∈ tblG := gw2 24 (by decide +kernel) (by decide +kernel)
theorem fk_X7_12 : FLk RX7 12 7 0 (.object "ObligingPosts$Tape") true := ⟨RX7, TX7, 12, tyX7, clX7, by decide, rfl, rfl, rfl, Or.inl wd285⟩
theorem layX6 : ∀ k, k < 8 → u_lay RX6 TX6 k ∈ tblG := fun k hk => match k, hk with
  | 0, _ => gw1 43 (by decide +kernel) (by decide +kernel)
  | 1, _ => gw1 45 (by decide +kernel) (by decide +kernel)
  | 2, _ => gw1 47 (by decide +kernel) (by decide +kernel)
  | 3, _ => gw1 49 (by decide +kernel) (by decide +kernel)
  | 4, _ => gw1 51 (by decide +kernel) (by decide +kernel)
  | 5, _ => gw1 53 (by decide +kernel) (by decide +kernel)
  | 6, _ => gw1 55 (by decide +kernel) (by decide +kernel)
  | 7, _ => gw1 57 (by decide +kernel) (by decide +kernel)
  | k + 8, hk => absurd hk (by omega)
theorem clX6 : CLk 6 RX6 TX6 8 tyX6 := ⟨rfl, fun w hw => by
  obtain ⟨k, hk, rfl⟩ := List.mem_map.mp hw
  exact layX6 k (List.mem_range.mp hk), tyX6_ok, nmX6⟩
theorem fk_X7_96 : FLk RX7 96 6 3 (.int) false := ⟨RX6, TX6, 8, tyX6, clX6, by decide, rfl, rfl, rfl, Or.inr ⟨"ObligingPosts", List.mem_of_getElem? (i := 3) (by decide +kernel)⟩⟩
theorem fk_X7_84 : FLk RX7 84 6 2 (.int) false := ⟨RX6, TX6, 8, tyX6, clX6, by decide, rfl, rfl, rfl, Or.inr ⟨"ObligingPosts", List.mem_of_getElem? (i := 1) (by decide +kernel)⟩⟩
theorem wd286 : Cond.methodLink RX7 231 yX2_allSettings ∈ tblG := gw4 146 (by decide +kernel) (by decide +kernel)
theorem wd287 : Cond.instanceMethod yX2_allSettings ∈ tblG := gw4 147 (by decide +kernel) (by decide +kernel)
theorem wd288 : Cond.selects RX2 yX2_allSettings yX2_allSettings ∈ tblG := gw4 148 (by decide +kernel) (by decide +kernel)
theorem wd289 : Cond.code yX2_allSettings cX2_allSettings 3 (some .int) ∈ tblG := gw4 149 (by decide +kernel) (by decide +kernel)
theorem pl_X2_allSettings : Plain yX2_allSettings 0 := ⟨by decide, by decide, by decide +kernel⟩
theorem lk_X7_231 : LkV RX7 231 2 yX2_allSettings cX2_allSettings 3 (some .int) 0 := ⟨⟨TX2, 16, rfl⟩, wd286, wd287, wd288, wd7, wd289, pl_X2_allSettings⟩
theorem fk_X7_249 : FLk RX7 249 4 6 (.array .int) true := ⟨RX4, TX4, 9, tyX4, clX4, by decide, rfl, rfl, rfl, Or.inr ⟨"ObligingPosts", List.mem_of_getElem? (i := 12) (by decide +kernel)⟩⟩
theorem wd290 : Cond.methodLink RX7 419 yX2_settingNumber ∈ tblG := gw4 138 (by decide +kernel) (by decide +kernel)
theorem lk_X7_419 : LkV RX7 419 2 yX2_settingNumber cX2_settingNumber 6 (some .int) 2 := ⟨⟨TX2, 16, rfl⟩, wd290, wd157, wd158, wd7, wd159, pl_X2_settingNumber⟩
theorem wd291 : Cond.methodLink RX7 228 yX7_settingIn ∈ tblG := gw4 134 (by decide +kernel) (by decide +kernel)
theorem wd292 : Cond.instanceMethod yX7_settingIn ∈ tblG := gw4 136 (by decide +kernel) (by decide +kernel)
theorem wd293 : Cond.selects RX7 yX7_settingIn yX7_settingIn ∈ tblG := gw0 27 (by decide +kernel) (by decide +kernel)
theorem wd294 : Cond.code yX7_settingIn cX7_settingIn 2 (some .int) ∈ tblG := gw4 137 (by decide +kernel) (by decide +kernel)
theorem pl_X7_settingIn : Plain yX7_settingIn 1 := ⟨by decide, by decide, by decide +kernel⟩
theorem lk_X7_228 : LkV RX7 228 7 yX7_settingIn cX7_settingIn 2 (some .int) 1 := ⟨⟨TX7, 12, rfl⟩, wd291, wd292, wd293, wd207, wd294, pl_X7_settingIn⟩
theorem wd295 : Cond.methodLink RX7 252 yX2_isTree ∈ tblG := gw4 202 (by decide +kernel) (by decide +kernel)
theorem wd296 : Cond.instanceMethod yX2_isTree ∈ tblG := gw4 203 (by decide +kernel) (by decide +kernel)
theorem wd297 : Cond.selects RX2 yX2_isTree yX2_isTree ∈ tblG := gw4 204 (by decide +kernel) (by decide +kernel)
theorem wd298 : Cond.code yX2_isTree cX2_isTree 4 (some .boolean) ∈ tblG := gw4 205 (by decide +kernel) (by decide +kernel)
theorem pl_X2_isTree : Plain yX2_isTree 2 := ⟨by decide, by decide, by decide +kernel⟩
theorem lk_X7_252 : LkV RX7 252 2 yX2_isTree cX2_isTree 4 (some .boolean) 2 := ⟨⟨TX2, 16, rfl⟩, wd295, wd296, wd297, wd7, wd298, pl_X2_isTree⟩
theorem wd299 : Cond.methodLink RX7 256 yX2_postsOnRings ∈ tblG := gw4 214 (by decide +kernel) (by decide +kernel)
theorem wd300 : Cond.instanceMethod yX2_postsOnRings ∈ tblG := gw4 215 (by decide +kernel) (by decide +kernel)
theorem wd301 : Cond.selects RX2 yX2_postsOnRings yX2_postsOnRings ∈ tblG := gw4 216 (by decide +kernel) (by decide +kernel)
theorem wd302 : Cond.code yX2_postsOnRings cX2_postsOnRings 5 (some .int) ∈ tblG := gw4 217 (by decide +kernel) (by decide +kernel)
theorem pl_X2_postsOnRings : Plain yX2_postsOnRings 2 := ⟨by decide, by decide, by decide +kernel⟩
theorem lk_X7_256 : LkV RX7 256 2 yX2_postsOnRings cX2_postsOnRings 5 (some .int) 2 := ⟨⟨TX2, 16, rfl⟩, wd299, wd300, wd301, wd7, wd302, pl_X2_postsOnRings⟩
theorem wd303 : Cond.fieldLink RX7 51 RX7 "lone" "LObligingPosts$Lone;" ∈ tblG := gw2 31 (by decide +kernel) (by decide +kernel)
theorem fk_X7_51 : FLk RX7 51 7 7 (.object "ObligingPosts$Lone") true := ⟨RX7, TX7, 12, tyX7, clX7, by decide, rfl, rfl, rfl, Or.inl wd303⟩
theorem wd304 : Cond.methodLink RX7 234 yX3_begin ∈ tblG := gw4 158 (by decide +kernel) (by decide +kernel)
theorem wd305 : Cond.instanceMethod yX3_begin ∈ tblG := gw4 159 (by decide +kernel) (by decide +kernel)
theorem wd306 : Cond.selects RX3 yX3_begin yX3_begin ∈ tblG := gw4 160 (by decide +kernel) (by decide +kernel)
theorem wd307 : Cond.initialized RX3 ∈ tblG := gw1 6 (by decide +kernel) (by decide +kernel)
theorem wd308 : Cond.code yX3_begin cX3_begin 1 none ∈ tblG := gw4 161 (by decide +kernel) (by decide +kernel)
theorem pl_X3_begin : Plain yX3_begin 0 := ⟨by decide, by decide, by decide +kernel⟩
theorem lk_X7_234 : LkV RX7 234 3 yX3_begin cX3_begin 1 none 0 := ⟨⟨TX3, 3, rfl⟩, wd304, wd305, wd306, wd307, wd308, pl_X3_begin⟩
theorem wd309 : Cond.methodLink RX7 237 yX3_sendFrom ∈ tblG := gw4 163 (by decide +kernel) (by decide +kernel)
theorem wd310 : Cond.instanceMethod yX3_sendFrom ∈ tblG := gw4 164 (by decide +kernel) (by decide +kernel)
theorem wd311 : Cond.selects RX3 yX3_sendFrom yX3_sendFrom ∈ tblG := gw4 165 (by decide +kernel) (by decide +kernel)
theorem wd312 : Cond.code yX3_sendFrom cX3_sendFrom 3 (some .int) ∈ tblG := gw4 166 (by decide +kernel) (by decide +kernel)
theorem pl_X3_sendFrom : Plain yX3_sendFrom 1 := ⟨by decide, by decide, by decide +kernel⟩
theorem lk_X7_237 : LkV RX7 237 3 yX3_sendFrom cX3_sendFrom 3 (some .int) 1 := ⟨⟨TX3, 3, rfl⟩, wd309, wd310, wd311, wd307, wd312, pl_X3_sendFrom⟩
theorem fk_X7_240 : FLk RX7 240 3 2 (.int) false := ⟨RX3, TX3, 3, tyX3, clX3, by decide, rfl, rfl, rfl, Or.inr ⟨"ObligingPosts", List.mem_of_getElem? (i := 11) (by decide +kernel)⟩⟩
theorem wd313 : Cond.methodLink RX7 243 yX3_settingNow ∈ tblG := gw4 178 (by decide +kernel) (by decide +kernel)
theorem wd314 : Cond.instanceMethod yX3_settingNow ∈ tblG := gw4 179 (by decide +kernel) (by decide +kernel)
theorem wd315 : Cond.selects RX3 yX3_settingNow yX3_settingNow ∈ tblG := gw4 180 (by decide +kernel) (by decide +kernel)
theorem wd316 : Cond.code yX3_settingNow cX3_settingNow 1 (some .int) ∈ tblG := gw4 181 (by decide +kernel) (by decide +kernel)
theorem pl_X3_settingNow : Plain yX3_settingNow 0 := ⟨by decide, by decide, by decide +kernel⟩
theorem lk_X7_243 : LkV RX7 243 3 yX3_settingNow cX3_settingNow 1 (some .int) 0 := ⟨⟨TX3, 3, rfl⟩, wd313, wd314, wd315, wd307, wd316, pl_X3_settingNow⟩
