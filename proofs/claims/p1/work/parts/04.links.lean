theorem dX2_isTold_0 : decode cX2_isTold 0 = .ok (.aload_n 0, 1) := by decide +kernel
theorem dX2_isTold_1 : decode cX2_isTold 1 = .ok (.getfield 9, 3) := by decide +kernel
theorem dX2_isTold_4 : decode cX2_isTold 4 = .ok (.ifCond .le 7, 3) := by decide +kernel
theorem dX2_isTold_11 : decode cX2_isTold 11 = .ok (.iconst 0, 1) := by decide +kernel
theorem dX2_isTold_12 : decode cX2_isTold 12 = .ok (.ireturn, 1) := by decide +kernel
theorem dX2_hasInn_0 : decode cX2_hasInn 0 = .ok (.iload_n 1, 1) := by decide +kernel
theorem dX2_hasInn_1 : decode cX2_hasInn 1 = .ok (.ifCond .lt 15, 3) := by decide +kernel
theorem dX2_hasInn_4 : decode cX2_hasInn 4 = .ok (.iload_n 1, 1) := by decide +kernel
theorem dX2_hasInn_5 : decode cX2_hasInn 5 = .ok (.aload_n 0, 1) := by decide +kernel
theorem dX2_hasInn_6 : decode cX2_hasInn 6 = .ok (.getfield 24, 3) := by decide +kernel
theorem dX2_hasInn_9 : decode cX2_hasInn 9 = .ok (.if_icmp .ge 7, 3) := by decide +kernel
theorem dX2_hasInn_16 : decode cX2_hasInn 16 = .ok (.iconst 0, 1) := by decide +kernel
theorem dX2_hasInn_17 : decode cX2_hasInn 17 = .ok (.ireturn, 1) := by decide +kernel
theorem dX2_hasPost_0 : decode cX2_hasPost 0 = .ok (.iload_n 1, 1) := by decide +kernel
theorem dX2_hasPost_1 : decode cX2_hasPost 1 = .ok (.ifCond .lt 15, 3) := by decide +kernel
theorem dX2_hasPost_4 : decode cX2_hasPost 4 = .ok (.iload_n 1, 1) := by decide +kernel
theorem dX2_hasPost_5 : decode cX2_hasPost 5 = .ok (.aload_n 0, 1) := by decide +kernel
theorem dX2_hasPost_6 : decode cX2_hasPost 6 = .ok (.getfield 27, 3) := by decide +kernel
theorem dX2_hasPost_9 : decode cX2_hasPost 9 = .ok (.if_icmp .ge 7, 3) := by decide +kernel
theorem dX2_hasPost_16 : decode cX2_hasPost 16 = .ok (.iconst 0, 1) := by decide +kernel
theorem dX2_hasPost_17 : decode cX2_hasPost 17 = .ok (.ireturn, 1) := by decide +kernel
theorem dX2_hasPlace_0 : decode cX2_hasPlace 0 = .ok (.iload_n 1, 1) := by decide +kernel
theorem dX2_hasPlace_1 : decode cX2_hasPlace 1 = .ok (.bipush 10, 2) := by decide +kernel
theorem dX2_hasPlace_3 : decode cX2_hasPlace 3 = .ok (.if_icmp .ge 11, 3) := by decide +kernel
theorem dX2_hasPlace_6 : decode cX2_hasPlace 6 = .ok (.aload_n 0, 1) := by decide +kernel
theorem dX2_hasPlace_7 : decode cX2_hasPlace 7 = .ok (.iload_n 1, 1) := by decide +kernel
theorem dX2_hasPlace_8 : decode cX2_hasPlace 8 = .ok (.invokevirtual 84, 3) := by decide +kernel
theorem dX2_hasPlace_11 : decode cX2_hasPlace 11 = .ok (.goto 11, 3) := by decide +kernel
theorem dX2_hasPlace_14 : decode cX2_hasPlace 14 = .ok (.aload_n 0, 1) := by decide +kernel
theorem dX2_hasPlace_15 : decode cX2_hasPlace 15 = .ok (.iload_n 1, 1) := by decide +kernel
theorem dX2_hasPlace_16 : decode cX2_hasPlace 16 = .ok (.bipush 10, 2) := by decide +kernel
theorem dX2_hasPlace_18 : decode cX2_hasPlace 18 = .ok (.isub, 1) := by decide +kernel
theorem dX2_hasPlace_19 : decode cX2_hasPlace 19 = .ok (.invokevirtual 88, 3) := by decide +kernel
theorem dX2_hasPlace_22 : decode cX2_hasPlace 22 = .ok (.ireturn, 1) := by decide +kernel
theorem dX2_hasWalker_0 : decode cX2_hasWalker 0 = .ok (.iload_n 1, 1) := by decide +kernel
theorem dX2_hasWalker_1 : decode cX2_hasWalker 1 = .ok (.ifCond .lt 15, 3) := by decide +kernel
theorem dX2_hasWalker_4 : decode cX2_hasWalker 4 = .ok (.iload_n 1, 1) := by decide +kernel
theorem dX2_hasWalker_5 : decode cX2_hasWalker 5 = .ok (.aload_n 0, 1) := by decide +kernel
theorem dX2_hasWalker_6 : decode cX2_hasWalker 6 = .ok (.getfield 36, 3) := by decide +kernel
theorem dX2_hasWalker_9 : decode cX2_hasWalker 9 = .ok (.if_icmp .ge 7, 3) := by decide +kernel
theorem dX2_hasWalker_16 : decode cX2_hasWalker 16 = .ok (.iconst 0, 1) := by decide +kernel
theorem dX2_hasWalker_17 : decode cX2_hasWalker 17 = .ok (.ireturn, 1) := by decide +kernel
theorem dX2_hasHour_0 : decode cX2_hasHour 0 = .ok (.aload_n 0, 1) := by decide +kernel
theorem dX2_hasHour_1 : decode cX2_hasHour 1 = .ok (.invokevirtual 91, 3) := by decide +kernel
theorem dX2_hasHour_4 : decode cX2_hasHour 4 = .ok (.ifCond .eq 19, 3) := by decide +kernel
theorem dX2_hasHour_23 : decode cX2_hasHour 23 = .ok (.iconst 0, 1) := by decide +kernel
theorem dX2_hasHour_24 : decode cX2_hasHour 24 = .ok (.ireturn, 1) := by decide +kernel
theorem dX2_hasHourAhead_0 : decode cX2_hasHourAhead 0 = .ok (.aload_n 0, 1) := by decide +kernel
theorem dX2_hasHourAhead_1 : decode cX2_hasHourAhead 1 = .ok (.iload_n 1, 1) := by decide +kernel
theorem dX2_hasHourAhead_2 : decode cX2_hasHourAhead 2 = .ok (.invokevirtual 95, 3) := by decide +kernel
theorem dX2_hasHourAhead_5 : decode cX2_hasHourAhead 5 = .ok (.ifCond .eq 15, 3) := by decide +kernel
theorem dX2_hasHourAhead_20 : decode cX2_hasHourAhead 20 = .ok (.iconst 0, 1) := by decide +kernel
theorem dX2_hasHourAhead_21 : decode cX2_hasHourAhead 21 = .ok (.ireturn, 1) := by decide +kernel
theorem dX7_room_0 : decode cX7_room 0 = .ok (.aload_n 0, 1) := by decide +kernel
theorem dX7_room_1 : decode cX7_room 1 = .ok (.getfield 19, 3) := by decide +kernel
theorem dX7_room_4 : decode cX7_room 4 = .ok (.iload_n 1, 1) := by decide +kernel
theorem dX7_room_5 : decode cX7_room 5 = .ok (.invokevirtual 99, 3) := by decide +kernel
theorem dX7_room_8 : decode cX7_room 8 = .ok (.ifCond .eq 15, 3) := by decide +kernel
theorem dX7_room_23 : decode cX7_room 23 = .ok (.bipush (-2), 2) := by decide +kernel
theorem dX7_room_25 : decode cX7_room 25 = .ok (.ireturn, 1) := by decide +kernel
theorem dX7_roads_0 : decode cX7_roads 0 = .ok (.aload_n 0, 1) := by decide +kernel
theorem dX7_roads_1 : decode cX7_roads 1 = .ok (.getfield 19, 3) := by decide +kernel
theorem dX7_roads_4 : decode cX7_roads 4 = .ok (.iload_n 1, 1) := by decide +kernel
theorem dX7_roads_5 : decode cX7_roads 5 = .ok (.invokevirtual 106, 3) := by decide +kernel
theorem dX7_roads_8 : decode cX7_roads 8 = .ok (.ifCond .eq 15, 3) := by decide +kernel
theorem dX7_roads_23 : decode cX7_roads 23 = .ok (.bipush (-2), 2) := by decide +kernel
theorem dX7_roads_25 : decode cX7_roads 25 = .ok (.ireturn, 1) := by decide +kernel
theorem dX7_goes_0 : decode cX7_goes 0 = .ok (.aload_n 0, 1) := by decide +kernel
theorem dX7_goes_1 : decode cX7_goes 1 = .ok (.getfield 19, 3) := by decide +kernel
theorem dX7_goes_4 : decode cX7_goes 4 = .ok (.iload_n 1, 1) := by decide +kernel
theorem dX7_goes_5 : decode cX7_goes 5 = .ok (.invokevirtual 106, 3) := by decide +kernel
theorem dX7_goes_8 : decode cX7_goes 8 = .ok (.ifCond .eq 7, 3) := by decide +kernel
theorem dX7_goes_15 : decode cX7_goes 15 = .ok (.bipush (-2), 2) := by decide +kernel
theorem dX7_goes_17 : decode cX7_goes 17 = .ok (.ireturn, 1) := by decide +kernel
theorem dX7_told_0 : decode cX7_told 0 = .ok (.aload_n 0, 1) := by decide +kernel
theorem dX7_told_1 : decode cX7_told 1 = .ok (.getfield 19, 3) := by decide +kernel
theorem dX7_told_4 : decode cX7_told 4 = .ok (.iload_n 1, 1) := by decide +kernel
theorem dX7_told_5 : decode cX7_told 5 = .ok (.invokevirtual 106, 3) := by decide +kernel
theorem dX7_told_8 : decode cX7_told 8 = .ok (.ifCond .ne 6, 3) := by decide +kernel
theorem dX7_told_11 : decode cX7_told 11 = .ok (.bipush (-2), 2) := by decide +kernel
theorem dX7_told_13 : decode cX7_told 13 = .ok (.ireturn, 1) := by decide +kernel
theorem dX7_walker_0 : decode cX7_walker 0 = .ok (.aload_n 0, 1) := by decide +kernel
theorem dX7_walker_1 : decode cX7_walker 1 = .ok (.getfield 19, 3) := by decide +kernel
theorem dX7_walker_4 : decode cX7_walker 4 = .ok (.iload_n 1, 1) := by decide +kernel
theorem dX7_walker_5 : decode cX7_walker 5 = .ok (.invokevirtual 122, 3) := by decide +kernel
theorem dX7_walker_8 : decode cX7_walker 8 = .ok (.ifCond .eq 10, 3) := by decide +kernel
theorem dX7_walker_18 : decode cX7_walker 18 = .ok (.bipush (-2), 2) := by decide +kernel
theorem dX7_walker_20 : decode cX7_walker 20 = .ok (.ireturn, 1) := by decide +kernel
theorem dX7_at_0 : decode cX7_at 0 = .ok (.aload_n 0, 1) := by decide +kernel
theorem dX7_at_1 : decode cX7_at 1 = .ok (.getfield 19, 3) := by decide +kernel
theorem dX7_at_4 : decode cX7_at 4 = .ok (.iload_n 1, 1) := by decide +kernel
theorem dX7_at_5 : decode cX7_at 5 = .ok (.invokevirtual 122, 3) := by decide +kernel
theorem dX7_at_8 : decode cX7_at 8 = .ok (.ifCond .eq 14, 3) := by decide +kernel
theorem dX7_at_22 : decode cX7_at 22 = .ok (.bipush (-2), 2) := by decide +kernel
theorem dX7_at_24 : decode cX7_at 24 = .ok (.ireturn, 1) := by decide +kernel
theorem dX7_arm_0 : decode cX7_arm 0 = .ok (.aload_n 0, 1) := by decide +kernel
theorem dX7_arm_1 : decode cX7_arm 1 = .ok (.getfield 19, 3) := by decide +kernel
theorem dX7_arm_4 : decode cX7_arm 4 = .ok (.iload_n 1, 1) := by decide +kernel
theorem dX7_arm_5 : decode cX7_arm 5 = .ok (.invokevirtual 106, 3) := by decide +kernel
theorem dX7_arm_8 : decode cX7_arm 8 = .ok (.ifCond .eq 14, 3) := by decide +kernel
theorem dX7_arm_22 : decode cX7_arm 22 = .ok (.bipush (-2), 2) := by decide +kernel
theorem dX7_arm_24 : decode cX7_arm 24 = .ok (.ireturn, 1) := by decide +kernel
theorem dX7_here_0 : decode cX7_here 0 = .ok (.aload_n 0, 1) := by decide +kernel
theorem dX7_here_1 : decode cX7_here 1 = .ok (.getfield 19, 3) := by decide +kernel
theorem dX7_here_4 : decode cX7_here 4 = .ok (.iload_n 1, 1) := by decide +kernel
theorem dX7_here_5 : decode cX7_here 5 = .ok (.invokevirtual 143, 3) := by decide +kernel
theorem dX7_here_8 : decode cX7_here 8 = .ok (.ifCond .eq 14, 3) := by decide +kernel
theorem dX7_here_22 : decode cX7_here 22 = .ok (.bipush (-2), 2) := by decide +kernel
theorem dX7_here_24 : decode cX7_here 24 = .ok (.ireturn, 1) := by decide +kernel
theorem dX7_sent_0 : decode cX7_sent 0 = .ok (.aload_n 0, 1) := by decide +kernel
theorem dX7_sent_1 : decode cX7_sent 1 = .ok (.getfield 19, 3) := by decide +kernel
theorem dX7_sent_4 : decode cX7_sent 4 = .ok (.iload_n 1, 1) := by decide +kernel
theorem dX7_sent_5 : decode cX7_sent 5 = .ok (.invokevirtual 149, 3) := by decide +kernel
theorem dX7_sent_8 : decode cX7_sent 8 = .ok (.ifCond .eq 14, 3) := by decide +kernel
theorem dX7_sent_22 : decode cX7_sent 22 = .ok (.bipush (-2), 2) := by decide +kernel
theorem dX7_sent_24 : decode cX7_sent 24 = .ok (.ireturn, 1) := by decide +kernel
theorem dX7_sends_0 : decode cX7_sends 0 = .ok (.aload_n 0, 1) := by decide +kernel
theorem dX7_sends_1 : decode cX7_sends 1 = .ok (.getfield 19, 3) := by decide +kernel
theorem dX7_sends_4 : decode cX7_sends 4 = .ok (.iload_n 1, 1) := by decide +kernel
theorem dX7_sends_5 : decode cX7_sends 5 = .ok (.invokevirtual 106, 3) := by decide +kernel
theorem dX7_sends_8 : decode cX7_sends 8 = .ok (.ifCond .eq 14, 3) := by decide +kernel
theorem dX7_sends_22 : decode cX7_sends 22 = .ok (.bipush (-2), 2) := by decide +kernel
theorem dX7_sends_24 : decode cX7_sends 24 = .ok (.ireturn, 1) := by decide +kernel
theorem dX7_used_0 : decode cX7_used 0 = .ok (.aload_n 0, 1) := by decide +kernel
theorem dX7_used_1 : decode cX7_used 1 = .ok (.getfield 19, 3) := by decide +kernel
theorem dX7_used_4 : decode cX7_used 4 = .ok (.iload_n 1, 1) := by decide +kernel
theorem dX7_used_5 : decode cX7_used 5 = .ok (.invokevirtual 106, 3) := by decide +kernel
theorem dX7_used_8 : decode cX7_used 8 = .ok (.ifCond .eq 7, 3) := by decide +kernel
theorem dX7_used_15 : decode cX7_used 15 = .ok (.bipush (-2), 2) := by decide +kernel
theorem dX7_used_17 : decode cX7_used 17 = .ok (.ireturn, 1) := by decide +kernel
theorem dX7_walks_0 : decode cX7_walks 0 = .ok (.aload_n 0, 1) := by decide +kernel
theorem dX7_walks_1 : decode cX7_walks 1 = .ok (.getfield 19, 3) := by decide +kernel
theorem dX7_walks_4 : decode cX7_walks 4 = .ok (.iload_n 1, 1) := by decide +kernel
theorem dX7_walks_5 : decode cX7_walks 5 = .ok (.invokevirtual 122, 3) := by decide +kernel
theorem dX7_walks_8 : decode cX7_walks 8 = .ok (.ifCond .eq 14, 3) := by decide +kernel
theorem dX7_walks_22 : decode cX7_walks 22 = .ok (.bipush (-2), 2) := by decide +kernel
theorem dX7_walks_24 : decode cX7_walks 24 = .ok (.ireturn, 1) := by decide +kernel
theorem dX7_home_0 : decode cX7_home 0 = .ok (.aload_n 0, 1) := by decide +kernel
theorem dX7_home_1 : decode cX7_home 1 = .ok (.getfield 19, 3) := by decide +kernel
theorem dX7_home_4 : decode cX7_home 4 = .ok (.iload_n 1, 1) := by decide +kernel
theorem dX7_home_5 : decode cX7_home 5 = .ok (.invokevirtual 122, 3) := by decide +kernel
theorem dX7_home_8 : decode cX7_home 8 = .ok (.ifCond .eq 14, 3) := by decide +kernel
theorem dX7_home_22 : decode cX7_home 22 = .ok (.bipush (-2), 2) := by decide +kernel
theorem dX7_home_24 : decode cX7_home 24 = .ok (.ireturn, 1) := by decide +kernel
theorem dX7_inn_0 : decode cX7_inn 0 = .ok (.aload_n 0, 1) := by decide +kernel
theorem dX7_inn_1 : decode cX7_inn 1 = .ok (.getfield 19, 3) := by decide +kernel
theorem dX7_inn_4 : decode cX7_inn 4 = .ok (.iload_n 1, 1) := by decide +kernel
theorem dX7_inn_5 : decode cX7_inn 5 = .ok (.invokevirtual 122, 3) := by decide +kernel
theorem dX7_inn_8 : decode cX7_inn 8 = .ok (.ifCond .ne 6, 3) := by decide +kernel
theorem dX7_inn_11 : decode cX7_inn 11 = .ok (.bipush (-2), 2) := by decide +kernel
theorem dX7_inn_13 : decode cX7_inn 13 = .ok (.ireturn, 1) := by decide +kernel
theorem dX7_trail_0 : decode cX7_trail 0 = .ok (.aload_n 0, 1) := by decide +kernel
theorem dX7_trail_1 : decode cX7_trail 1 = .ok (.getfield 19, 3) := by decide +kernel
theorem dX7_trail_4 : decode cX7_trail 4 = .ok (.iload_n 1, 1) := by decide +kernel
theorem dX7_trail_5 : decode cX7_trail 5 = .ok (.invokevirtual 122, 3) := by decide +kernel
theorem dX7_trail_8 : decode cX7_trail 8 = .ok (.ifCond .eq 14, 3) := by decide +kernel
theorem dX7_trail_22 : decode cX7_trail 22 = .ok (.bipush (-2), 2) := by decide +kernel
theorem dX7_trail_24 : decode cX7_trail 24 = .ok (.ireturn, 1) := by decide +kernel
theorem dX7_again_0 : decode cX7_again 0 = .ok (.aload_n 0, 1) := by decide +kernel
theorem dX7_again_1 : decode cX7_again 1 = .ok (.getfield 19, 3) := by decide +kernel
theorem dX7_again_4 : decode cX7_again 4 = .ok (.iload_n 1, 1) := by decide +kernel
theorem dX7_again_5 : decode cX7_again 5 = .ok (.invokevirtual 122, 3) := by decide +kernel
theorem dX7_again_8 : decode cX7_again 8 = .ok (.ifCond .eq 14, 3) := by decide +kernel
theorem dX7_again_22 : decode cX7_again 22 = .ok (.bipush (-2), 2) := by decide +kernel
theorem dX7_again_24 : decode cX7_again 24 = .ok (.ireturn, 1) := by decide +kernel
theorem dX7_lingers_0 : decode cX7_lingers 0 = .ok (.aload_n 0, 1) := by decide +kernel
theorem dX7_lingers_1 : decode cX7_lingers 1 = .ok (.getfield 19, 3) := by decide +kernel
theorem dX7_lingers_4 : decode cX7_lingers 4 = .ok (.iload_n 1, 1) := by decide +kernel
theorem dX7_lingers_5 : decode cX7_lingers 5 = .ok (.invokevirtual 122, 3) := by decide +kernel
theorem dX7_lingers_8 : decode cX7_lingers 8 = .ok (.ifCond .eq 14, 3) := by decide +kernel
theorem dX7_lingers_22 : decode cX7_lingers 22 = .ok (.bipush (-2), 2) := by decide +kernel
theorem dX7_lingers_24 : decode cX7_lingers 24 = .ok (.ireturn, 1) := by decide +kernel
theorem dX7_doors_0 : decode cX7_doors 0 = .ok (.aload_n 0, 1) := by decide +kernel
theorem dX7_doors_1 : decode cX7_doors 1 = .ok (.getfield 19, 3) := by decide +kernel
theorem dX7_doors_4 : decode cX7_doors 4 = .ok (.iload_n 1, 1) := by decide +kernel
theorem dX7_doors_5 : decode cX7_doors 5 = .ok (.invokevirtual 106, 3) := by decide +kernel
theorem dX7_doors_8 : decode cX7_doors 8 = .ok (.ifCond .eq 14, 3) := by decide +kernel
theorem dX7_doors_22 : decode cX7_doors 22 = .ok (.bipush (-2), 2) := by decide +kernel
theorem dX7_doors_24 : decode cX7_doors 24 = .ok (.ireturn, 1) := by decide +kernel
theorem dX7_guests_0 : decode cX7_guests 0 = .ok (.aload_n 0, 1) := by decide +kernel
theorem dX7_guests_1 : decode cX7_guests 1 = .ok (.getfield 19, 3) := by decide +kernel
theorem dX7_guests_4 : decode cX7_guests 4 = .ok (.iload_n 1, 1) := by decide +kernel
theorem dX7_guests_5 : decode cX7_guests 5 = .ok (.invokevirtual 99, 3) := by decide +kernel
theorem dX7_guests_8 : decode cX7_guests 8 = .ok (.ifCond .eq 14, 3) := by decide +kernel
theorem dX7_guests_22 : decode cX7_guests 22 = .ok (.bipush (-2), 2) := by decide +kernel
theorem dX7_guests_24 : decode cX7_guests 24 = .ok (.ireturn, 1) := by decide +kernel
theorem dX7_full_0 : decode cX7_full 0 = .ok (.aload_n 0, 1) := by decide +kernel
theorem dX7_full_1 : decode cX7_full 1 = .ok (.getfield 19, 3) := by decide +kernel
theorem dX7_full_4 : decode cX7_full 4 = .ok (.iload_n 1, 1) := by decide +kernel
theorem dX7_full_5 : decode cX7_full 5 = .ok (.invokevirtual 99, 3) := by decide +kernel
theorem dX7_full_8 : decode cX7_full 8 = .ok (.ifCond .eq 14, 3) := by decide +kernel
theorem dX7_full_22 : decode cX7_full 22 = .ok (.bipush (-2), 2) := by decide +kernel
theorem dX7_full_24 : decode cX7_full 24 = .ok (.ireturn, 1) := by decide +kernel
theorem dX7_refuses_0 : decode cX7_refuses 0 = .ok (.aload_n 0, 1) := by decide +kernel
theorem dX7_refuses_1 : decode cX7_refuses 1 = .ok (.getfield 19, 3) := by decide +kernel
theorem dX7_refuses_4 : decode cX7_refuses 4 = .ok (.iload_n 1, 1) := by decide +kernel
theorem dX7_refuses_5 : decode cX7_refuses 5 = .ok (.invokevirtual 99, 3) := by decide +kernel
theorem dX7_refuses_8 : decode cX7_refuses 8 = .ok (.ifCond .eq 14, 3) := by decide +kernel
theorem dX7_refuses_22 : decode cX7_refuses 22 = .ok (.bipush (-2), 2) := by decide +kernel
theorem dX7_refuses_24 : decode cX7_refuses 24 = .ok (.ireturn, 1) := by decide +kernel
theorem dX7_inside_0 : decode cX7_inside 0 = .ok (.aload_n 0, 1) := by decide +kernel
theorem dX7_inside_1 : decode cX7_inside 1 = .ok (.getfield 19, 3) := by decide +kernel
theorem dX7_inside_4 : decode cX7_inside 4 = .ok (.iload_n 1, 1) := by decide +kernel
theorem dX7_inside_5 : decode cX7_inside 5 = .ok (.invokevirtual 134, 3) := by decide +kernel
theorem dX7_inside_8 : decode cX7_inside 8 = .ok (.ifCond .eq 14, 3) := by decide +kernel
theorem dX7_inside_22 : decode cX7_inside 22 = .ok (.bipush (-2), 2) := by decide +kernel
theorem dX7_inside_24 : decode cX7_inside 24 = .ok (.ireturn, 1) := by decide +kernel
theorem dX7_outside_0 : decode cX7_outside 0 = .ok (.aload_n 0, 1) := by decide +kernel
theorem dX7_outside_1 : decode cX7_outside 1 = .ok (.getfield 19, 3) := by decide +kernel
theorem dX7_outside_4 : decode cX7_outside 4 = .ok (.iload_n 1, 1) := by decide +kernel
theorem dX7_outside_5 : decode cX7_outside 5 = .ok (.invokevirtual 134, 3) := by decide +kernel
theorem dX7_outside_8 : decode cX7_outside 8 = .ok (.ifCond .eq 14, 3) := by decide +kernel
theorem dX7_outside_22 : decode cX7_outside 22 = .ok (.bipush (-2), 2) := by decide +kernel
theorem dX7_outside_24 : decode cX7_outside 24 = .ok (.ireturn, 1) := by decide +kernel
theorem dX7_done_0 : decode cX7_done 0 = .ok (.aload_n 0, 1) := by decide +kernel
theorem dX7_done_1 : decode cX7_done 1 = .ok (.getfield 19, 3) := by decide +kernel
theorem dX7_done_4 : decode cX7_done 4 = .ok (.invokevirtual 198, 3) := by decide +kernel
theorem dX7_done_7 : decode cX7_done 7 = .ok (.ifCond .eq 13, 3) := by decide +kernel
theorem dX7_done_20 : decode cX7_done 20 = .ok (.bipush (-2), 2) := by decide +kernel
theorem dX7_done_22 : decode cX7_done 22 = .ok (.ireturn, 1) := by decide +kernel
theorem dX7_crowd_0 : decode cX7_crowd 0 = .ok (.aload_n 0, 1) := by decide +kernel
theorem dX7_crowd_1 : decode cX7_crowd 1 = .ok (.getfield 19, 3) := by decide +kernel
theorem dX7_crowd_4 : decode cX7_crowd 4 = .ok (.iload_n 1, 1) := by decide +kernel
theorem dX7_crowd_5 : decode cX7_crowd 5 = .ok (.invokevirtual 134, 3) := by decide +kernel
theorem dX7_crowd_8 : decode cX7_crowd 8 = .ok (.ifCond .eq 14, 3) := by decide +kernel
theorem dX7_crowd_22 : decode cX7_crowd 22 = .ok (.bipush (-2), 2) := by decide +kernel
theorem dX7_crowd_24 : decode cX7_crowd 24 = .ok (.ireturn, 1) := by decide +kernel
theorem dX7_armless_0 : decode cX7_armless 0 = .ok (.aload_n 0, 1) := by decide +kernel
theorem dX7_armless_1 : decode cX7_armless 1 = .ok (.getfield 19, 3) := by decide +kernel
theorem dX7_armless_4 : decode cX7_armless 4 = .ok (.invokevirtual 198, 3) := by decide +kernel
theorem dX7_armless_7 : decode cX7_armless 7 = .ok (.ifCond .eq 13, 3) := by decide +kernel
theorem dX7_armless_20 : decode cX7_armless 20 = .ok (.bipush (-2), 2) := by decide +kernel
theorem dX7_armless_22 : decode cX7_armless 22 = .ok (.ireturn, 1) := by decide +kernel
theorem dX7_meet_0 : decode cX7_meet 0 = .ok (.aload_n 0, 1) := by decide +kernel
theorem dX7_meet_1 : decode cX7_meet 1 = .ok (.iload_n 1, 1) := by decide +kernel
theorem dX7_meet_2 : decode cX7_meet 2 = .ok (.iload_n 2, 1) := by decide +kernel
theorem dX7_meet_3 : decode cX7_meet 3 = .ok (.invokevirtual 212, 3) := by decide +kernel
theorem dX7_meet_6 : decode cX7_meet 6 = .ok (.ifCond .eq 15, 3) := by decide +kernel
theorem dX7_meet_21 : decode cX7_meet 21 = .ok (.bipush (-2), 2) := by decide +kernel
theorem dX7_meet_23 : decode cX7_meet 23 = .ok (.ireturn, 1) := by decide +kernel
theorem dX7_busy_0 : decode cX7_busy 0 = .ok (.aload_n 0, 1) := by decide +kernel
theorem dX7_busy_1 : decode cX7_busy 1 = .ok (.getfield 19, 3) := by decide +kernel
theorem dX7_busy_4 : decode cX7_busy 4 = .ok (.invokevirtual 198, 3) := by decide +kernel
theorem dX7_busy_7 : decode cX7_busy 7 = .ok (.ifCond .ne 6, 3) := by decide +kernel
theorem dX7_busy_10 : decode cX7_busy 10 = .ok (.bipush (-2), 2) := by decide +kernel
theorem dX7_busy_12 : decode cX7_busy 12 = .ok (.ireturn, 1) := by decide +kernel
theorem dX7_idle_0 : decode cX7_idle 0 = .ok (.aload_n 0, 1) := by decide +kernel
theorem dX7_idle_1 : decode cX7_idle 1 = .ok (.getfield 19, 3) := by decide +kernel
theorem dX7_idle_4 : decode cX7_idle 4 = .ok (.invokevirtual 198, 3) := by decide +kernel
theorem dX7_idle_7 : decode cX7_idle 7 = .ok (.ifCond .ne 6, 3) := by decide +kernel
theorem dX7_idle_10 : decode cX7_idle 10 = .ok (.bipush (-2), 2) := by decide +kernel
theorem dX7_idle_12 : decode cX7_idle 12 = .ok (.ireturn, 1) := by decide +kernel
theorem dX7_reach_0 : decode cX7_reach 0 = .ok (.aload_n 0, 1) := by decide +kernel
theorem dX7_reach_1 : decode cX7_reach 1 = .ok (.getfield 19, 3) := by decide +kernel
theorem dX7_reach_4 : decode cX7_reach 4 = .ok (.iload_n 1, 1) := by decide +kernel
theorem dX7_reach_5 : decode cX7_reach 5 = .ok (.invokevirtual 106, 3) := by decide +kernel
theorem dX7_reach_8 : decode cX7_reach 8 = .ok (.ifCond .eq 14, 3) := by decide +kernel
theorem dX7_reach_22 : decode cX7_reach 22 = .ok (.bipush (-2), 2) := by decide +kernel
theorem dX7_reach_24 : decode cX7_reach 24 = .ok (.ireturn, 1) := by decide +kernel
theorem dX7_far_0 : decode cX7_far 0 = .ok (.aload_n 0, 1) := by decide +kernel
theorem dX7_far_1 : decode cX7_far 1 = .ok (.getfield 19, 3) := by decide +kernel
theorem dX7_far_4 : decode cX7_far 4 = .ok (.iload_n 1, 1) := by decide +kernel
theorem dX7_far_5 : decode cX7_far 5 = .ok (.invokevirtual 106, 3) := by decide +kernel
theorem dX7_far_8 : decode cX7_far 8 = .ok (.ifCond .eq 14, 3) := by decide +kernel
theorem dX7_far_22 : decode cX7_far 22 = .ok (.bipush (-2), 2) := by decide +kernel
theorem dX7_far_24 : decode cX7_far 24 = .ok (.ireturn, 1) := by decide +kernel
theorem dX7_setting_0 : decode cX7_setting 0 = .ok (.aload_n 0, 1) := by decide +kernel
theorem dX7_setting_1 : decode cX7_setting 1 = .ok (.getfield 19, 3) := by decide +kernel
theorem dX7_setting_4 : decode cX7_setting 4 = .ok (.iload_n 1, 1) := by decide +kernel
theorem dX7_setting_5 : decode cX7_setting 5 = .ok (.invokevirtual 134, 3) := by decide +kernel
theorem dX7_setting_8 : decode cX7_setting 8 = .ok (.ifCond .eq 11, 3) := by decide +kernel
theorem dX7_setting_19 : decode cX7_setting 19 = .ok (.bipush (-2), 2) := by decide +kernel
theorem dX7_setting_21 : decode cX7_setting 21 = .ok (.ireturn, 1) := by decide +kernel
theorem dX7_settings_0 : decode cX7_settings 0 = .ok (.aload_n 0, 1) := by decide +kernel
theorem dX7_settings_1 : decode cX7_settings 1 = .ok (.getfield 19, 3) := by decide +kernel
theorem dX7_settings_4 : decode cX7_settings 4 = .ok (.invokevirtual 198, 3) := by decide +kernel
theorem dX7_settings_7 : decode cX7_settings 7 = .ok (.ifCond .eq 13, 3) := by decide +kernel
theorem dX7_settings_20 : decode cX7_settings 20 = .ok (.bipush (-2), 2) := by decide +kernel
theorem dX7_settings_22 : decode cX7_settings 22 = .ok (.ireturn, 1) := by decide +kernel
theorem dX7_same_0 : decode cX7_same 0 = .ok (.aload_n 0, 1) := by decide +kernel
theorem dX7_same_1 : decode cX7_same 1 = .ok (.getfield 19, 3) := by decide +kernel
theorem dX7_same_4 : decode cX7_same 4 = .ok (.invokevirtual 198, 3) := by decide +kernel
theorem dX7_same_7 : decode cX7_same 7 = .ok (.ifCond .ne 6, 3) := by decide +kernel
theorem dX7_same_10 : decode cX7_same 10 = .ok (.bipush (-2), 2) := by decide +kernel
theorem dX7_same_12 : decode cX7_same 12 = .ok (.ireturn, 1) := by decide +kernel
theorem dX7_alone_0 : decode cX7_alone 0 = .ok (.aload_n 0, 1) := by decide +kernel
theorem dX7_alone_1 : decode cX7_alone 1 = .ok (.getfield 19, 3) := by decide +kernel
theorem dX7_alone_4 : decode cX7_alone 4 = .ok (.iload_n 1, 1) := by decide +kernel
theorem dX7_alone_5 : decode cX7_alone 5 = .ok (.invokevirtual 106, 3) := by decide +kernel
theorem dX7_alone_8 : decode cX7_alone 8 = .ok (.ifCond .ne 6, 3) := by decide +kernel
theorem dX7_alone_11 : decode cX7_alone 11 = .ok (.bipush (-2), 2) := by decide +kernel
theorem dX7_alone_13 : decode cX7_alone 13 = .ok (.ireturn, 1) := by decide +kernel
theorem dX7_steps_0 : decode cX7_steps 0 = .ok (.aload_n 0, 1) := by decide +kernel
theorem dX7_steps_1 : decode cX7_steps 1 = .ok (.getfield 19, 3) := by decide +kernel
theorem dX7_steps_4 : decode cX7_steps 4 = .ok (.iload_n 1, 1) := by decide +kernel
theorem dX7_steps_5 : decode cX7_steps 5 = .ok (.invokevirtual 106, 3) := by decide +kernel
theorem dX7_steps_8 : decode cX7_steps 8 = .ok (.ifCond .ne 6, 3) := by decide +kernel
theorem dX7_steps_11 : decode cX7_steps 11 = .ok (.bipush (-2), 2) := by decide +kernel
theorem dX7_steps_13 : decode cX7_steps 13 = .ok (.ireturn, 1) := by decide +kernel
theorem dX7_behind_0 : decode cX7_behind 0 = .ok (.aload_n 0, 1) := by decide +kernel
theorem dX7_behind_1 : decode cX7_behind 1 = .ok (.getfield 19, 3) := by decide +kernel
theorem dX7_behind_4 : decode cX7_behind 4 = .ok (.iload_n 1, 1) := by decide +kernel
theorem dX7_behind_5 : decode cX7_behind 5 = .ok (.invokevirtual 106, 3) := by decide +kernel
theorem dX7_behind_8 : decode cX7_behind 8 = .ok (.ifCond .ne 6, 3) := by decide +kernel
theorem dX7_behind_11 : decode cX7_behind 11 = .ok (.bipush (-2), 2) := by decide +kernel
theorem dX7_behind_13 : decode cX7_behind 13 = .ok (.ireturn, 1) := by decide +kernel
theorem dX7_nth_0 : decode cX7_nth 0 = .ok (.aload_n 0, 1) := by decide +kernel
theorem dX7_nth_1 : decode cX7_nth 1 = .ok (.getfield 19, 3) := by decide +kernel
theorem dX7_nth_4 : decode cX7_nth 4 = .ok (.iload_n 1, 1) := by decide +kernel
theorem dX7_nth_5 : decode cX7_nth 5 = .ok (.invokevirtual 106, 3) := by decide +kernel
theorem dX7_nth_8 : decode cX7_nth 8 = .ok (.ifCond .eq 10, 3) := by decide +kernel
theorem dX7_nth_18 : decode cX7_nth 18 = .ok (.bipush (-2), 2) := by decide +kernel
theorem dX7_nth_20 : decode cX7_nth 20 = .ok (.ireturn, 1) := by decide +kernel
theorem dX7_round_0 : decode cX7_round 0 = .ok (.aload_n 0, 1) := by decide +kernel
theorem dX7_round_1 : decode cX7_round 1 = .ok (.getfield 19, 3) := by decide +kernel
theorem dX7_round_4 : decode cX7_round 4 = .ok (.iload_n 1, 1) := by decide +kernel
theorem dX7_round_5 : decode cX7_round 5 = .ok (.invokevirtual 106, 3) := by decide +kernel
theorem dX7_round_8 : decode cX7_round 8 = .ok (.ifCond .ne 6, 3) := by decide +kernel
theorem dX7_round_11 : decode cX7_round 11 = .ok (.bipush (-2), 2) := by decide +kernel
theorem dX7_round_13 : decode cX7_round 13 = .ok (.ireturn, 1) := by decide +kernel
theorem dX7_houses_0 : decode cX7_houses 0 = .ok (.aload_n 0, 1) := by decide +kernel
theorem dX7_houses_1 : decode cX7_houses 1 = .ok (.getfield 19, 3) := by decide +kernel
theorem dX7_houses_4 : decode cX7_houses 4 = .ok (.iload_n 1, 1) := by decide +kernel
theorem dX7_houses_5 : decode cX7_houses 5 = .ok (.invokevirtual 106, 3) := by decide +kernel
theorem dX7_houses_8 : decode cX7_houses 8 = .ok (.ifCond .eq 21, 3) := by decide +kernel
theorem dX7_houses_29 : decode cX7_houses 29 = .ok (.bipush (-2), 2) := by decide +kernel
theorem dX7_houses_31 : decode cX7_houses 31 = .ok (.ireturn, 1) := by decide +kernel
theorem dX7_tree_0 : decode cX7_tree 0 = .ok (.aload_n 0, 1) := by decide +kernel
theorem dX7_tree_1 : decode cX7_tree 1 = .ok (.getfield 19, 3) := by decide +kernel
theorem dX7_tree_4 : decode cX7_tree 4 = .ok (.iload_n 1, 1) := by decide +kernel
theorem dX7_tree_5 : decode cX7_tree 5 = .ok (.invokevirtual 134, 3) := by decide +kernel
theorem dX7_tree_8 : decode cX7_tree 8 = .ok (.ifCond .ne 6, 3) := by decide +kernel
theorem dX7_tree_11 : decode cX7_tree 11 = .ok (.bipush (-2), 2) := by decide +kernel
theorem dX7_tree_13 : decode cX7_tree 13 = .ok (.ireturn, 1) := by decide +kernel
theorem dX7_ring_0 : decode cX7_ring 0 = .ok (.aload_n 0, 1) := by decide +kernel
theorem dX7_ring_1 : decode cX7_ring 1 = .ok (.getfield 19, 3) := by decide +kernel
theorem dX7_ring_4 : decode cX7_ring 4 = .ok (.iload_n 1, 1) := by decide +kernel
theorem dX7_ring_5 : decode cX7_ring 5 = .ok (.invokevirtual 134, 3) := by decide +kernel
theorem dX7_ring_8 : decode cX7_ring 8 = .ok (.ifCond .eq 24, 3) := by decide +kernel
theorem dX7_ring_32 : decode cX7_ring 32 = .ok (.bipush (-2), 2) := by decide +kernel
theorem dX7_ring_34 : decode cX7_ring 34 = .ok (.ireturn, 1) := by decide +kernel
theorem dX7_trees_0 : decode cX7_trees 0 = .ok (.aload_n 0, 1) := by decide +kernel
theorem dX7_trees_1 : decode cX7_trees 1 = .ok (.getfield 19, 3) := by decide +kernel
theorem dX7_trees_4 : decode cX7_trees 4 = .ok (.invokevirtual 198, 3) := by decide +kernel
theorem dX7_trees_7 : decode cX7_trees 7 = .ok (.ifCond .ne 6, 3) := by decide +kernel
theorem dX7_trees_10 : decode cX7_trees 10 = .ok (.bipush (-2), 2) := by decide +kernel
theorem dX7_trees_12 : decode cX7_trees 12 = .ok (.ireturn, 1) := by decide +kernel
theorem dX7_point_0 : decode cX7_point 0 = .ok (.aload_n 0, 1) := by decide +kernel
theorem dX7_point_1 : decode cX7_point 1 = .ok (.getfield 19, 3) := by decide +kernel
theorem dX7_point_4 : decode cX7_point 4 = .ok (.iload_n 1, 1) := by decide +kernel
theorem dX7_point_5 : decode cX7_point 5 = .ok (.invokevirtual 122, 3) := by decide +kernel
theorem dX7_point_8 : decode cX7_point 8 = .ok (.ifCond .eq 14, 3) := by decide +kernel
theorem dX7_point_22 : decode cX7_point 22 = .ok (.bipush (-2), 2) := by decide +kernel
theorem dX7_point_24 : decode cX7_point 24 = .ok (.ireturn, 1) := by decide +kernel
theorem dX7_best_0 : decode cX7_best 0 = .ok (.aload_n 0, 1) := by decide +kernel
theorem dX7_best_1 : decode cX7_best 1 = .ok (.getfield 19, 3) := by decide +kernel
theorem dX7_best_4 : decode cX7_best 4 = .ok (.invokevirtual 198, 3) := by decide +kernel
theorem dX7_best_7 : decode cX7_best 7 = .ok (.ifCond .ne 6, 3) := by decide +kernel
theorem dX7_best_10 : decode cX7_best 10 = .ok (.bipush (-2), 2) := by decide +kernel
theorem dX7_best_12 : decode cX7_best 12 = .ok (.ireturn, 1) := by decide +kernel
theorem dX7_crowds_0 : decode cX7_crowds 0 = .ok (.aload_n 0, 1) := by decide +kernel
theorem dX7_crowds_1 : decode cX7_crowds 1 = .ok (.getfield 19, 3) := by decide +kernel
theorem dX7_crowds_4 : decode cX7_crowds 4 = .ok (.invokevirtual 198, 3) := by decide +kernel
theorem dX7_crowds_7 : decode cX7_crowds 7 = .ok (.ifCond .ne 6, 3) := by decide +kernel
theorem dX7_crowds_10 : decode cX7_crowds 10 = .ok (.bipush (-2), 2) := by decide +kernel
theorem dX7_crowds_12 : decode cX7_crowds 12 = .ok (.ireturn, 1) := by decide +kernel
theorem dX7_may_0 : decode cX7_may 0 = .ok (.aload_n 0, 1) := by decide +kernel
theorem dX7_may_1 : decode cX7_may 1 = .ok (.iload_n 1, 1) := by decide +kernel
theorem dX7_may_2 : decode cX7_may 2 = .ok (.aload_n 0, 1) := by decide +kernel
theorem dX7_may_3 : decode cX7_may 3 = .ok (.getfield 19, 3) := by decide +kernel
theorem dX7_may_6 : decode cX7_may 6 = .ok (.iload_n 2, 1) := by decide +kernel
theorem dX7_may_7 : decode cX7_may 7 = .ok (.invokevirtual 106, 3) := by decide +kernel
theorem dX7_may_10 : decode cX7_may 10 = .ok (.invokevirtual 288, 3) := by decide +kernel
theorem dX7_may_13 : decode cX7_may 13 = .ok (.istore_n 3, 1) := by decide +kernel
theorem dX7_may_14 : decode cX7_may 14 = .ok (.iload_n 3, 1) := by decide +kernel
theorem dX7_may_15 : decode cX7_may 15 = .ok (.ifCond .eq 7, 3) := by decide +kernel
theorem dX7_may_18 : decode cX7_may 18 = .ok (.iload_n 3, 1) := by decide +kernel
theorem dX7_may_19 : decode cX7_may 19 = .ok (.goto 14, 3) := by decide +kernel
theorem dX7_may_33 : decode cX7_may 33 = .ok (.ireturn, 1) := by decide +kernel
theorem dX7_ask_0 : decode cX7_ask 0 = .ok (.aload_n 0, 1) := by decide +kernel
theorem dX7_ask_1 : decode cX7_ask 1 = .ok (.iload_n 1, 1) := by decide +kernel
theorem dX7_ask_2 : decode cX7_ask 2 = .ok (.aload_n 0, 1) := by decide +kernel
theorem dX7_ask_3 : decode cX7_ask 3 = .ok (.getfield 19, 3) := by decide +kernel
theorem dX7_ask_6 : decode cX7_ask 6 = .ok (.iload_n 2, 1) := by decide +kernel
theorem dX7_ask_7 : decode cX7_ask 7 = .ok (.invokevirtual 106, 3) := by decide +kernel
theorem dX7_ask_10 : decode cX7_ask 10 = .ok (.invokevirtual 288, 3) := by decide +kernel
theorem dX7_ask_13 : decode cX7_ask 13 = .ok (.istore_n 3, 1) := by decide +kernel
theorem dX7_ask_14 : decode cX7_ask 14 = .ok (.iload_n 3, 1) := by decide +kernel
theorem dX7_ask_15 : decode cX7_ask 15 = .ok (.ifCond .eq 5, 3) := by decide +kernel
theorem dX7_ask_18 : decode cX7_ask 18 = .ok (.iload_n 3, 1) := by decide +kernel
theorem dX7_ask_19 : decode cX7_ask 19 = .ok (.ireturn, 1) := by decide +kernel
theorem dX7_leaves_0 : decode cX7_leaves 0 = .ok (.aload_n 0, 1) := by decide +kernel
theorem dX7_leaves_1 : decode cX7_leaves 1 = .ok (.iload_n 1, 1) := by decide +kernel
theorem dX7_leaves_2 : decode cX7_leaves 2 = .ok (.aload_n 0, 1) := by decide +kernel
theorem dX7_leaves_3 : decode cX7_leaves 3 = .ok (.getfield 19, 3) := by decide +kernel
theorem dX7_leaves_6 : decode cX7_leaves 6 = .ok (.iload_n 2, 1) := by decide +kernel
theorem dX7_leaves_7 : decode cX7_leaves 7 = .ok (.invokevirtual 106, 3) := by decide +kernel
theorem dX7_leaves_10 : decode cX7_leaves 10 = .ok (.invokevirtual 288, 3) := by decide +kernel
theorem dX7_leaves_13 : decode cX7_leaves 13 = .ok (.istore_n 3, 1) := by decide +kernel
theorem dX7_leaves_14 : decode cX7_leaves 14 = .ok (.iload_n 3, 1) := by decide +kernel
theorem dX7_leaves_15 : decode cX7_leaves 15 = .ok (.ifCond .eq 5, 3) := by decide +kernel
theorem dX7_leaves_18 : decode cX7_leaves 18 = .ok (.iload_n 3, 1) := by decide +kernel
theorem dX7_leaves_19 : decode cX7_leaves 19 = .ok (.ireturn, 1) := by decide +kernel
theorem dX7_laws_0 : decode cX7_laws 0 = .ok (.aload_n 0, 1) := by decide +kernel
theorem dX7_laws_1 : decode cX7_laws 1 = .ok (.iload_n 1, 1) := by decide +kernel
theorem dX7_laws_2 : decode cX7_laws 2 = .ok (.aload_n 0, 1) := by decide +kernel
theorem dX7_laws_3 : decode cX7_laws 3 = .ok (.getfield 19, 3) := by decide +kernel
theorem dX7_laws_6 : decode cX7_laws 6 = .ok (.invokevirtual 198, 3) := by decide +kernel
theorem dX7_laws_9 : decode cX7_laws 9 = .ok (.invokevirtual 288, 3) := by decide +kernel
theorem dX7_laws_12 : decode cX7_laws 12 = .ok (.istore_n 2, 1) := by decide +kernel
theorem dX7_laws_13 : decode cX7_laws 13 = .ok (.iload_n 2, 1) := by decide +kernel
theorem dX7_laws_14 : decode cX7_laws 14 = .ok (.ifCond .eq 5, 3) := by decide +kernel
theorem dX7_laws_17 : decode cX7_laws 17 = .ok (.iload_n 2, 1) := by decide +kernel
theorem dX7_laws_18 : decode cX7_laws 18 = .ok (.ireturn, 1) := by decide +kernel
theorem dX7_by_0 : decode cX7_by 0 = .ok (.aload_n 0, 1) := by decide +kernel
theorem dX7_by_1 : decode cX7_by 1 = .ok (.getfield 19, 3) := by decide +kernel
theorem dX7_by_4 : decode cX7_by 4 = .ok (.invokevirtual 198, 3) := by decide +kernel
theorem dX7_by_7 : decode cX7_by 7 = .ok (.ifCond .eq 12, 3) := by decide +kernel
theorem dX7_by_19 : decode cX7_by 19 = .ok (.bipush (-2), 2) := by decide +kernel
theorem dX7_by_21 : decode cX7_by 21 = .ok (.ireturn, 1) := by decide +kernel
theorem dX7_law_0 : decode cX7_law 0 = .ok (.aload_n 0, 1) := by decide +kernel
theorem dX7_law_1 : decode cX7_law 1 = .ok (.getfield 19, 3) := by decide +kernel
theorem dX7_law_4 : decode cX7_law 4 = .ok (.invokevirtual 198, 3) := by decide +kernel
theorem dX7_law_7 : decode cX7_law 7 = .ok (.ifCond .ne 6, 3) := by decide +kernel
theorem dX7_law_10 : decode cX7_law 10 = .ok (.bipush (-2), 2) := by decide +kernel
theorem dX7_law_12 : decode cX7_law 12 = .ok (.ireturn, 1) := by decide +kernel
theorem dX7_worth_0 : decode cX7_worth 0 = .ok (.aload_n 0, 1) := by decide +kernel
theorem dX7_worth_1 : decode cX7_worth 1 = .ok (.getfield 19, 3) := by decide +kernel
theorem dX7_worth_4 : decode cX7_worth 4 = .ok (.invokevirtual 198, 3) := by decide +kernel
theorem dX7_worth_7 : decode cX7_worth 7 = .ok (.ifCond .eq 20, 3) := by decide +kernel
theorem dX7_worth_27 : decode cX7_worth 27 = .ok (.bipush (-2), 2) := by decide +kernel
theorem dX7_worth_29 : decode cX7_worth 29 = .ok (.ireturn, 1) := by decide +kernel
theorem dX7_share_0 : decode cX7_share 0 = .ok (.aload_n 0, 1) := by decide +kernel
theorem dX7_share_1 : decode cX7_share 1 = .ok (.getfield 19, 3) := by decide +kernel
theorem dX7_share_4 : decode cX7_share 4 = .ok (.iload_n 1, 1) := by decide +kernel
theorem dX7_share_5 : decode cX7_share 5 = .ok (.invokevirtual 106, 3) := by decide +kernel
theorem dX7_share_8 : decode cX7_share 8 = .ok (.ifCond .eq 10, 3) := by decide +kernel
theorem dX7_share_18 : decode cX7_share 18 = .ok (.sipush (-1000), 3) := by decide +kernel
theorem dX7_share_21 : decode cX7_share 21 = .ok (.ireturn, 1) := by decide +kernel
theorem dX7_rests_0 : decode cX7_rests 0 = .ok (.aload_n 0, 1) := by decide +kernel
theorem dX7_rests_1 : decode cX7_rests 1 = .ok (.iload_n 1, 1) := by decide +kernel
theorem dX7_rests_2 : decode cX7_rests 2 = .ok (.iload_n 2, 1) := by decide +kernel
theorem dX7_rests_3 : decode cX7_rests 3 = .ok (.invokevirtual 212, 3) := by decide +kernel
theorem dX7_rests_6 : decode cX7_rests 6 = .ok (.ifCond .ne 6, 3) := by decide +kernel
theorem dX7_rests_9 : decode cX7_rests 9 = .ok (.bipush (-2), 2) := by decide +kernel
theorem dX7_rests_11 : decode cX7_rests 11 = .ok (.ireturn, 1) := by decide +kernel
theorem dX7_gets_0 : decode cX7_gets 0 = .ok (.aload_n 0, 1) := by decide +kernel
theorem dX7_gets_1 : decode cX7_gets 1 = .ok (.iload_n 1, 1) := by decide +kernel
theorem dX7_gets_2 : decode cX7_gets 2 = .ok (.iload_n 2, 1) := by decide +kernel
theorem dX7_gets_3 : decode cX7_gets 3 = .ok (.invokevirtual 212, 3) := by decide +kernel
theorem dX7_gets_6 : decode cX7_gets 6 = .ok (.ifCond .eq 18, 3) := by decide +kernel
theorem dX7_gets_24 : decode cX7_gets 24 = .ok (.sipush (-1000), 3) := by decide +kernel
theorem dX7_gets_27 : decode cX7_gets 27 = .ok (.ireturn, 1) := by decide +kernel
theorem dX7_chance_0 : decode cX7_chance 0 = .ok (.aload_n 0, 1) := by decide +kernel
theorem dX7_chance_1 : decode cX7_chance 1 = .ok (.getfield 19, 3) := by decide +kernel
theorem dX7_chance_4 : decode cX7_chance 4 = .ok (.iload_n 1, 1) := by decide +kernel
theorem dX7_chance_5 : decode cX7_chance 5 = .ok (.invokevirtual 122, 3) := by decide +kernel
theorem dX7_chance_8 : decode cX7_chance 8 = .ok (.ifCond .eq 18, 3) := by decide +kernel
theorem dX7_chance_26 : decode cX7_chance 26 = .ok (.ldc2_w 330, 3) := by decide +kernel
theorem dX7_chance_29 : decode cX7_chance 29 = .ok (.lreturn, 1) := by decide +kernel
theorem dX7_mean_0 : decode cX7_mean 0 = .ok (.aload_n 0, 1) := by decide +kernel
theorem dX7_mean_1 : decode cX7_mean 1 = .ok (.iload_n 1, 1) := by decide +kernel
theorem dX7_mean_2 : decode cX7_mean 2 = .ok (.invokevirtual 327, 3) := by decide +kernel
theorem dX7_mean_5 : decode cX7_mean 5 = .ok (.ifCond .eq 10, 3) := by decide +kernel
theorem dX7_mean_15 : decode cX7_mean 15 = .ok (.ldc2_w 330, 3) := by decide +kernel
theorem dX7_mean_18 : decode cX7_mean 18 = .ok (.lreturn, 1) := by decide +kernel
theorem dX7_twists_0 : decode cX7_twists 0 = .ok (.aload_n 0, 1) := by decide +kernel
theorem dX7_twists_1 : decode cX7_twists 1 = .ok (.getfield 19, 3) := by decide +kernel
theorem dX7_twists_4 : decode cX7_twists 4 = .ok (.iload_n 1, 1) := by decide +kernel
theorem dX7_twists_5 : decode cX7_twists 5 = .ok (.invokevirtual 106, 3) := by decide +kernel
theorem dX7_twists_8 : decode cX7_twists 8 = .ok (.ifCond .eq 14, 3) := by decide +kernel
theorem dX7_twists_22 : decode cX7_twists 22 = .ok (.bipush (-2), 2) := by decide +kernel
theorem dX7_twists_24 : decode cX7_twists 24 = .ok (.ireturn, 1) := by decide +kernel
theorem dX7_holds_0 : decode cX7_holds 0 = .ok (.aload_n 0, 1) := by decide +kernel
theorem dX7_holds_1 : decode cX7_holds 1 = .ok (.getfield 19, 3) := by decide +kernel
theorem dX7_holds_4 : decode cX7_holds 4 = .ok (.iload_n 1, 1) := by decide +kernel
theorem dX7_holds_5 : decode cX7_holds 5 = .ok (.invokevirtual 122, 3) := by decide +kernel
theorem dX7_holds_8 : decode cX7_holds 8 = .ok (.ifCond .eq 14, 3) := by decide +kernel
theorem dX7_holds_22 : decode cX7_holds 22 = .ok (.bipush (-2), 2) := by decide +kernel
theorem dX7_holds_24 : decode cX7_holds 24 = .ok (.ireturn, 1) := by decide +kernel
theorem dX7_undo_0 : decode cX7_undo 0 = .ok (.aload_n 0, 1) := by decide +kernel
theorem dX7_undo_1 : decode cX7_undo 1 = .ok (.getfield 19, 3) := by decide +kernel
theorem dX7_undo_4 : decode cX7_undo 4 = .ok (.invokevirtual 198, 3) := by decide +kernel
theorem dX7_undo_7 : decode cX7_undo 7 = .ok (.ifCond .ne 6, 3) := by decide +kernel
theorem dX7_undo_10 : decode cX7_undo 10 = .ok (.bipush (-2), 2) := by decide +kernel
theorem dX7_undo_12 : decode cX7_undo 12 = .ok (.ireturn, 1) := by decide +kernel
theorem dX7_anew_0 : decode cX7_anew 0 = .ok (.aload_n 0, 1) := by decide +kernel
theorem dX7_anew_1 : decode cX7_anew 1 = .ok (.getfield 19, 3) := by decide +kernel
theorem dX7_anew_4 : decode cX7_anew 4 = .ok (.invokevirtual 198, 3) := by decide +kernel
theorem dX7_anew_7 : decode cX7_anew 7 = .ok (.ifCond .ne 6, 3) := by decide +kernel
theorem dX7_anew_10 : decode cX7_anew 10 = .ok (.bipush (-2), 2) := by decide +kernel
theorem dX7_anew_12 : decode cX7_anew 12 = .ok (.ireturn, 1) := by decide +kernel
theorem dX7_drawn_0 : decode cX7_drawn 0 = .ok (.aload_n 0, 1) := by decide +kernel
theorem dX7_drawn_1 : decode cX7_drawn 1 = .ok (.getfield 19, 3) := by decide +kernel
theorem dX7_drawn_4 : decode cX7_drawn 4 = .ok (.invokevirtual 198, 3) := by decide +kernel
theorem dX7_drawn_7 : decode cX7_drawn 7 = .ok (.ifCond .eq 17, 3) := by decide +kernel
theorem dX7_drawn_24 : decode cX7_drawn 24 = .ok (.bipush (-2), 2) := by decide +kernel
theorem dX7_drawn_26 : decode cX7_drawn 26 = .ok (.ireturn, 1) := by decide +kernel
theorem dX7_luck_0 : decode cX7_luck 0 = .ok (.iload_n 1, 1) := by decide +kernel
theorem dX7_luck_1 : decode cX7_luck 1 = .ok (.invokestatic 361, 3) := by decide +kernel
theorem dX7_luck_4 : decode cX7_luck 4 = .ok (.ifCond .eq 21, 3) := by decide +kernel
theorem dX7_luck_7 : decode cX7_luck 7 = .ok (.iload_n 2, 1) := by decide +kernel
theorem dX7_luck_8 : decode cX7_luck 8 = .ok (.invokestatic 246, 3) := by decide +kernel
theorem dX7_luck_11 : decode cX7_luck 11 = .ok (.ifCond .eq 14, 3) := by decide +kernel
theorem dX7_luck_14 : decode cX7_luck 14 = .ok (.aload_n 0, 1) := by decide +kernel
theorem dX7_luck_15 : decode cX7_luck 15 = .ok (.getfield 19, 3) := by decide +kernel
theorem dX7_luck_18 : decode cX7_luck 18 = .ok (.iload_n 3, 1) := by decide +kernel
theorem dX7_luck_19 : decode cX7_luck 19 = .ok (.invokevirtual 122, 3) := by decide +kernel
theorem dX7_luck_22 : decode cX7_luck 22 = .ok (.ifCond .ne 6, 3) := by decide +kernel
theorem dX7_luck_25 : decode cX7_luck 25 = .ok (.bipush (-2), 2) := by decide +kernel
theorem dX7_luck_27 : decode cX7_luck 27 = .ok (.ireturn, 1) := by decide +kernel
theorem dX7_rate_0 : decode cX7_rate 0 = .ok (.aload_n 0, 1) := by decide +kernel
theorem dX7_rate_1 : decode cX7_rate 1 = .ok (.getfield 19, 3) := by decide +kernel
theorem dX7_rate_4 : decode cX7_rate 4 = .ok (.iload_n 1, 1) := by decide +kernel
theorem dX7_rate_5 : decode cX7_rate 5 = .ok (.invokevirtual 99, 3) := by decide +kernel
theorem dX7_rate_8 : decode cX7_rate 8 = .ok (.ifCond .eq 13, 3) := by decide +kernel
theorem dX7_rate_21 : decode cX7_rate 21 = .ok (.bipush (-2), 2) := by decide +kernel
theorem dX7_rate_23 : decode cX7_rate 23 = .ok (.ireturn, 1) := by decide +kernel
theorem dX7_isEither_0 : decode cX7_isEither 0 = .ok (.iload_n 0, 1) := by decide +kernel
theorem dX7_isEither_1 : decode cX7_isEither 1 = .ok (.ifCond .eq 8, 3) := by decide +kernel
theorem dX7_isEither_4 : decode cX7_isEither 4 = .ok (.iload_n 0, 1) := by decide +kernel
theorem dX7_isEither_5 : decode cX7_isEither 5 = .ok (.iconst 1, 1) := by decide +kernel
theorem dX7_isEither_6 : decode cX7_isEither 6 = .ok (.if_icmp .ne 7, 3) := by decide +kernel
theorem dX7_isEither_9 : decode cX7_isEither 9 = .ok (.iconst 1, 1) := by decide +kernel
theorem dX7_isEither_10 : decode cX7_isEither 10 = .ok (.goto 4, 3) := by decide +kernel
theorem dX7_isEither_13 : decode cX7_isEither 13 = .ok (.iconst 0, 1) := by decide +kernel
theorem dX7_isEither_14 : decode cX7_isEither 14 = .ok (.ireturn, 1) := by decide +kernel
theorem dX7_isFewInARow_0 : decode cX7_isFewInARow 0 = .ok (.iload_n 0, 1) := by decide +kernel
theorem dX7_isFewInARow_1 : decode cX7_isFewInARow 1 = .ok (.iconst 1, 1) := by decide +kernel
theorem dX7_isFewInARow_2 : decode cX7_isFewInARow 2 = .ok (.if_icmp .lt 13, 3) := by decide +kernel
theorem dX7_isFewInARow_5 : decode cX7_isFewInARow 5 = .ok (.iload_n 0, 1) := by decide +kernel
theorem dX7_isFewInARow_6 : decode cX7_isFewInARow 6 = .ok (.bipush 20, 2) := by decide +kernel
theorem dX7_isFewInARow_8 : decode cX7_isFewInARow 8 = .ok (.if_icmp .gt 7, 3) := by decide +kernel
theorem dX7_isFewInARow_11 : decode cX7_isFewInARow 11 = .ok (.iconst 1, 1) := by decide +kernel
theorem dX7_isFewInARow_12 : decode cX7_isFewInARow 12 = .ok (.goto 4, 3) := by decide +kernel
theorem dX7_isFewInARow_15 : decode cX7_isFewInARow 15 = .ok (.iconst 0, 1) := by decide +kernel
theorem dX7_isFewInARow_16 : decode cX7_isFewInARow 16 = .ok (.ireturn, 1) := by decide +kernel
theorem dX7_isSeed_0 : decode cX7_isSeed 0 = .ok (.iload_n 0, 1) := by decide +kernel
theorem dX7_isSeed_1 : decode cX7_isSeed 1 = .ok (.ifCond .lt 14, 3) := by decide +kernel
theorem dX7_isSeed_4 : decode cX7_isSeed 4 = .ok (.iload_n 0, 1) := by decide +kernel
theorem dX7_isSeed_5 : decode cX7_isSeed 5 = .ok (.ldc_w 418, 3) := by decide +kernel
theorem dX7_isSeed_8 : decode cX7_isSeed 8 = .ok (.if_icmp .gt 7, 3) := by decide +kernel
theorem dX7_isSeed_11 : decode cX7_isSeed 11 = .ok (.iconst 1, 1) := by decide +kernel
theorem dX7_isSeed_12 : decode cX7_isSeed 12 = .ok (.goto 4, 3) := by decide +kernel
theorem dX7_isSeed_15 : decode cX7_isSeed 15 = .ok (.iconst 0, 1) := by decide +kernel
theorem dX7_isSeed_16 : decode cX7_isSeed 16 = .ok (.ireturn, 1) := by decide +kernel
theorem dX7_isSlot_0 : decode cX7_isSlot 0 = .ok (.iload_n 0, 1) := by decide +kernel
theorem dX7_isSlot_1 : decode cX7_isSlot 1 = .ok (.ifCond .lt 12, 3) := by decide +kernel
theorem dX7_isSlot_4 : decode cX7_isSlot 4 = .ok (.iload_n 0, 1) := by decide +kernel
theorem dX7_isSlot_5 : decode cX7_isSlot 5 = .ok (.iconst 4, 1) := by decide +kernel
theorem dX7_isSlot_6 : decode cX7_isSlot 6 = .ok (.if_icmp .ge 7, 3) := by decide +kernel
theorem dX7_isSlot_9 : decode cX7_isSlot 9 = .ok (.iconst 1, 1) := by decide +kernel
theorem dX7_isSlot_10 : decode cX7_isSlot 10 = .ok (.goto 4, 3) := by decide +kernel
theorem dX7_isSlot_13 : decode cX7_isSlot 13 = .ok (.iconst 0, 1) := by decide +kernel
theorem dX7_isSlot_14 : decode cX7_isSlot 14 = .ok (.ireturn, 1) := by decide +kernel
theorem dX7_isFogHour_0 : decode cX7_isFogHour 0 = .ok (.aload_n 0, 1) := by decide +kernel
theorem dX7_isFogHour_1 : decode cX7_isFogHour 1 = .ok (.getfield 19, 3) := by decide +kernel
theorem dX7_isFogHour_4 : decode cX7_isFogHour 4 = .ok (.iload_n 1, 1) := by decide +kernel
theorem dX7_isFogHour_5 : decode cX7_isFogHour 5 = .ok (.invokevirtual 149, 3) := by decide +kernel
theorem dX7_isFogHour_8 : decode cX7_isFogHour 8 = .ok (.ifCond .eq 13, 3) := by decide +kernel
theorem dX7_isFogHour_21 : decode cX7_isFogHour 21 = .ok (.iconst 0, 1) := by decide +kernel
theorem dX7_isFogHour_22 : decode cX7_isFogHour 22 = .ok (.ireturn, 1) := by decide +kernel
theorem dX7_areTwo_0 : decode cX7_areTwo 0 = .ok (.aload_n 0, 1) := by decide +kernel
theorem dX7_areTwo_1 : decode cX7_areTwo 1 = .ok (.getfield 19, 3) := by decide +kernel
theorem dX7_areTwo_4 : decode cX7_areTwo 4 = .ok (.iload_n 1, 1) := by decide +kernel
theorem dX7_areTwo_5 : decode cX7_areTwo 5 = .ok (.invokevirtual 122, 3) := by decide +kernel
theorem dX7_areTwo_8 : decode cX7_areTwo 8 = .ok (.ifCond .eq 23, 3) := by decide +kernel
theorem dX7_areTwo_31 : decode cX7_areTwo 31 = .ok (.iconst 0, 1) := by decide +kernel
theorem dX7_areTwo_32 : decode cX7_areTwo 32 = .ok (.ireturn, 1) := by decide +kernel
theorem dX7_refusalOfSeen_0 : decode cX7_refusalOfSeen 0 = .ok (.iload_n 1, 1) := by decide +kernel
theorem dX7_refusalOfSeen_1 : decode cX7_refusalOfSeen 1 = .ok (.invokestatic 389, 3) := by decide +kernel
theorem dX7_refusalOfSeen_4 : decode cX7_refusalOfSeen 4 = .ok (.ifCond .eq 7, 3) := by decide +kernel
theorem dX7_refusalOfSeen_7 : decode cX7_refusalOfSeen 7 = .ok (.iload_n 2, 1) := by decide +kernel
theorem dX7_refusalOfSeen_8 : decode cX7_refusalOfSeen 8 = .ok (.ifCond .ne 6, 3) := by decide +kernel
theorem dX7_refusalOfSeen_11 : decode cX7_refusalOfSeen 11 = .ok (.bipush (-2), 2) := by decide +kernel
theorem dX7_refusalOfSeen_13 : decode cX7_refusalOfSeen 13 = .ok (.ireturn, 1) := by decide +kernel
theorem layX2 : ∀ k, k < 16 → u_lay RX2 TX2 k ∈ tblG := fun k hk => match k, hk with
  | 0, _ => gw1 147 (by decide +kernel) (by decide +kernel)
  | 1, _ => gw1 149 (by decide +kernel) (by decide +kernel)
  | 2, _ => gw1 151 (by decide +kernel) (by decide +kernel)
  | 3, _ => gw1 153 (by decide +kernel) (by decide +kernel)
  | 4, _ => gw1 155 (by decide +kernel) (by decide +kernel)
  | 5, _ => gw1 157 (by decide +kernel) (by decide +kernel)
  | 6, _ => gw1 159 (by decide +kernel) (by decide +kernel)
  | 7, _ => gw1 161 (by decide +kernel) (by decide +kernel)
  | 8, _ => gw1 163 (by decide +kernel) (by decide +kernel)
  | 9, _ => gw1 165 (by decide +kernel) (by decide +kernel)
  | 10, _ => gw1 167 (by decide +kernel) (by decide +kernel)
  | 11, _ => gw1 169 (by decide +kernel) (by decide +kernel)
  | 12, _ => gw1 171 (by decide +kernel) (by decide +kernel)
  | 13, _ => gw1 173 (by decide +kernel) (by decide +kernel)
  | 14, _ => gw1 175 (by decide +kernel) (by decide +kernel)
  | 15, _ => gw1 177 (by decide +kernel) (by decide +kernel)
  | k + 16, hk => absurd hk (by omega)
theorem clX2 : CLk 2 RX2 TX2 16 tyX2 := ⟨rfl, fun w hw => by
  obtain ⟨k, hk, rfl⟩ := List.mem_map.mp hw
  exact layX2 k (List.mem_range.mp hk), tyX2_ok, nmX2⟩
theorem wd0 : Cond.fieldLink RX2 24 RX2 "inns" "I" ∈ tblG := gw1 102 (by decide +kernel) (by decide +kernel)
theorem fk_X2_24 : FLk RX2 24 2 4 (.int) false := ⟨RX2, TX2, 16, tyX2, clX2, by decide, rfl, rfl, rfl, Or.inl wd0⟩
theorem wd1 : Cond.fieldLink RX2 27 RX2 "posts" "I" ∈ tblG := gw1 105 (by decide +kernel) (by decide +kernel)
theorem fk_X2_27 : FLk RX2 27 2 5 (.int) false := ⟨RX2, TX2, 16, tyX2, clX2, by decide, rfl, rfl, rfl, Or.inl wd1⟩
theorem wd2 : Cond.fieldLink RX2 36 RX2 "walkers" "I" ∈ tblG := gw1 116 (by decide +kernel) (by decide +kernel)
theorem fk_X2_36 : FLk RX2 36 2 8 (.int) false := ⟨RX2, TX2, 16, tyX2, clX2, by decide, rfl, rfl, rfl, Or.inl wd2⟩
theorem wd3 : Cond.methodLink RX2 88 yX2_hasInn ∈ tblG := gw3 152 (by decide +kernel) (by decide +kernel)
theorem wd4 : Cond.instanceMethod yX2_hasInn ∈ tblG := gw3 90 (by decide +kernel) (by decide +kernel)
theorem wd5 : Cond.selects RX2 yX2_hasInn yX2_hasInn ∈ tblG := gw3 91 (by decide +kernel) (by decide +kernel)
theorem wd6 : Cond.initialized RX2 ∈ tblG := gw1 3 (by decide +kernel) (by decide +kernel)
theorem wd7 : Cond.code yX2_hasInn cX2_hasInn 2 (some .boolean) ∈ tblG := gw3 92 (by decide +kernel) (by decide +kernel)
theorem pl_X2_hasInn : Plain yX2_hasInn 1 := ⟨by decide, by decide, by decide +kernel⟩
theorem lk_X2_88 : LkV RX2 88 2 yX2_hasInn cX2_hasInn 2 (some .boolean) 1 := ⟨⟨TX2, 16, rfl⟩, wd3, wd4, wd5, wd6, wd7, pl_X2_hasInn⟩
theorem wd8 : Cond.methodLink RX2 84 yX2_hasPost ∈ tblG := gw3 151 (by decide +kernel) (by decide +kernel)
theorem wd9 : Cond.instanceMethod yX2_hasPost ∈ tblG := gw3 98 (by decide +kernel) (by decide +kernel)
theorem wd10 : Cond.selects RX2 yX2_hasPost yX2_hasPost ∈ tblG := gw3 99 (by decide +kernel) (by decide +kernel)
theorem wd11 : Cond.code yX2_hasPost cX2_hasPost 2 (some .boolean) ∈ tblG := gw3 100 (by decide +kernel) (by decide +kernel)
theorem pl_X2_hasPost : Plain yX2_hasPost 1 := ⟨by decide, by decide, by decide +kernel⟩
theorem lk_X2_84 : LkV RX2 84 2 yX2_hasPost cX2_hasPost 2 (some .boolean) 1 := ⟨⟨TX2, 16, rfl⟩, wd8, wd9, wd10, wd6, wd11, pl_X2_hasPost⟩
theorem wd12 : Cond.fieldLink RX2 9 RX2 "lines" "I" ∈ tblG := gw1 85 (by decide +kernel) (by decide +kernel)
theorem fk_X2_9 : FLk RX2 9 2 0 (.int) false := ⟨RX2, TX2, 16, tyX2, clX2, by decide, rfl, rfl, rfl, Or.inl wd12⟩
theorem wd13 : Cond.methodLink RX2 91 yX2_isTold ∈ tblG := gw3 130 (by decide +kernel) (by decide +kernel)
theorem wd14 : Cond.instanceMethod yX2_isTold ∈ tblG := gw3 131 (by decide +kernel) (by decide +kernel)
theorem wd15 : Cond.selects RX2 yX2_isTold yX2_isTold ∈ tblG := gw3 132 (by decide +kernel) (by decide +kernel)
theorem wd16 : Cond.code yX2_isTold cX2_isTold 1 (some .boolean) ∈ tblG := gw3 133 (by decide +kernel) (by decide +kernel)
theorem pl_X2_isTold : Plain yX2_isTold 0 := ⟨by decide, by decide, by decide +kernel⟩
theorem lk_X2_91 : LkV RX2 91 2 yX2_isTold cX2_isTold 1 (some .boolean) 0 := ⟨⟨TX2, 16, rfl⟩, wd13, wd14, wd15, wd6, wd16, pl_X2_isTold⟩
theorem wd17 : Cond.methodLink RX2 95 yX2_hasHour ∈ tblG := gw3 165 (by decide +kernel) (by decide +kernel)
theorem wd18 : Cond.instanceMethod yX2_hasHour ∈ tblG := gw3 127 (by decide +kernel) (by decide +kernel)
theorem wd19 : Cond.selects RX2 yX2_hasHour yX2_hasHour ∈ tblG := gw3 128 (by decide +kernel) (by decide +kernel)
theorem wd20 : Cond.code yX2_hasHour cX2_hasHour 2 (some .boolean) ∈ tblG := gw3 129 (by decide +kernel) (by decide +kernel)
theorem pl_X2_hasHour : Plain yX2_hasHour 1 := ⟨by decide, by decide, by decide +kernel⟩
theorem lk_X2_95 : LkV RX2 95 2 yX2_hasHour cX2_hasHour 2 (some .boolean) 1 := ⟨⟨TX2, 16, rfl⟩, wd17, wd18, wd19, wd6, wd20, pl_X2_hasHour⟩
theorem wd21 : Cond.constant RX7 418 (2000000000) ∈ tblG := gw5 185 (by decide +kernel) (by decide +kernel)
theorem layX7 : ∀ k, k < 12 → u_lay RX7 TX7 k ∈ tblG := fun k hk => match k, hk with
  | 0, _ => gw2 36 (by decide +kernel) (by decide +kernel)
  | 1, _ => gw2 38 (by decide +kernel) (by decide +kernel)
  | 2, _ => gw2 40 (by decide +kernel) (by decide +kernel)
  | 3, _ => gw2 42 (by decide +kernel) (by decide +kernel)
  | 4, _ => gw2 44 (by decide +kernel) (by decide +kernel)
  | 5, _ => gw2 46 (by decide +kernel) (by decide +kernel)
  | 6, _ => gw2 48 (by decide +kernel) (by decide +kernel)
  | 7, _ => gw2 50 (by decide +kernel) (by decide +kernel)
  | 8, _ => gw2 52 (by decide +kernel) (by decide +kernel)
  | 9, _ => gw2 54 (by decide +kernel) (by decide +kernel)
  | 10, _ => gw2 56 (by decide +kernel) (by decide +kernel)
  | 11, _ => gw2 58 (by decide +kernel) (by decide +kernel)
  | k + 12, hk => absurd hk (by omega)
theorem clX7 : CLk 7 RX7 TX7 12 tyX7 := ⟨rfl, fun w hw => by
  obtain ⟨k, hk, rfl⟩ := List.mem_map.mp hw
  exact layX7 k (List.mem_range.mp hk), tyX7_ok, nmX7⟩
theorem wd22 : Cond.fieldLink RX7 19 RX7 "heath" "LObligingPosts$Heath;" ∈ tblG := gw2 25 (by decide +kernel) (by decide +kernel)
theorem fk_X7_19 : FLk RX7 19 7 1 (.object "ObligingPosts$Heath") true := ⟨RX7, TX7, 12, tyX7, clX7, by decide, rfl, rfl, rfl, Or.inl wd22⟩
theorem wd23 : Cond.methodLink RX7 149 yX2_hasHourAhead ∈ tblG := gw3 161 (by decide +kernel) (by decide +kernel)
theorem wd24 : Cond.instanceMethod yX2_hasHourAhead ∈ tblG := gw3 162 (by decide +kernel) (by decide +kernel)
theorem wd25 : Cond.selects RX2 yX2_hasHourAhead yX2_hasHourAhead ∈ tblG := gw3 163 (by decide +kernel) (by decide +kernel)
theorem wd26 : Cond.code yX2_hasHourAhead cX2_hasHourAhead 2 (some .boolean) ∈ tblG := gw3 164 (by decide +kernel) (by decide +kernel)
theorem pl_X2_hasHourAhead : Plain yX2_hasHourAhead 1 := ⟨by decide, by decide, by decide +kernel⟩
theorem lk_X7_149 : LkV RX7 149 2 yX2_hasHourAhead cX2_hasHourAhead 2 (some .boolean) 1 := ⟨⟨TX2, 16, rfl⟩, wd23, wd24, wd25, wd6, wd26, pl_X2_hasHourAhead⟩
theorem wd27 : Cond.methodLink RX7 122 yX2_hasWalker ∈ tblG := gw3 115 (by decide +kernel) (by decide +kernel)
theorem wd28 : Cond.instanceMethod yX2_hasWalker ∈ tblG := gw3 116 (by decide +kernel) (by decide +kernel)
theorem wd29 : Cond.selects RX2 yX2_hasWalker yX2_hasWalker ∈ tblG := gw3 117 (by decide +kernel) (by decide +kernel)
theorem wd30 : Cond.code yX2_hasWalker cX2_hasWalker 2 (some .boolean) ∈ tblG := gw3 118 (by decide +kernel) (by decide +kernel)
theorem pl_X2_hasWalker : Plain yX2_hasWalker 1 := ⟨by decide, by decide, by decide +kernel⟩
theorem lk_X7_122 : LkV RX7 122 2 yX2_hasWalker cX2_hasWalker 2 (some .boolean) 1 := ⟨⟨TX2, 16, rfl⟩, wd27, wd28, wd29, wd6, wd30, pl_X2_hasWalker⟩
theorem wd31 : Cond.methodLink RX7 389 yX7_isSlot ∈ tblG := gw5 27 (by decide +kernel) (by decide +kernel)
theorem wd32 : Cond.static yX7_isSlot ∈ tblG := gw5 28 (by decide +kernel) (by decide +kernel)
theorem wd33 : Cond.initialized RX7 ∈ tblG := gw1 1 (by decide +kernel) (by decide +kernel)
theorem wd34 : Cond.code yX7_isSlot cX7_isSlot 1 (some .boolean) ∈ tblG := gw5 29 (by decide +kernel) (by decide +kernel)
theorem pl_X7_isSlot : Plain yX7_isSlot 1 := ⟨by decide, by decide, by decide +kernel⟩
theorem lk_X7_389 : LkS RX7 389 yX7_isSlot cX7_isSlot 1 (some .boolean) 1 := ⟨wd31, wd32, wd33, wd34, pl_X7_isSlot⟩
theorem wd35 : Cond.methodLink RX7 99 yX2_hasInn ∈ tblG := gw3 89 (by decide +kernel) (by decide +kernel)
theorem lk_X7_99 : LkV RX7 99 2 yX2_hasInn cX2_hasInn 2 (some .boolean) 1 := ⟨⟨TX2, 16, rfl⟩, wd35, wd4, wd5, wd6, wd7, pl_X2_hasInn⟩
theorem wd36 : Cond.methodLink RX7 106 yX2_hasPost ∈ tblG := gw3 97 (by decide +kernel) (by decide +kernel)
theorem lk_X7_106 : LkV RX7 106 2 yX2_hasPost cX2_hasPost 2 (some .boolean) 1 := ⟨⟨TX2, 16, rfl⟩, wd36, wd9, wd10, wd6, wd11, pl_X2_hasPost⟩
theorem wd37 : Cond.methodLink RX7 143 yX2_hasPlace ∈ tblG := gw3 147 (by decide +kernel) (by decide +kernel)
theorem wd38 : Cond.instanceMethod yX2_hasPlace ∈ tblG := gw3 148 (by decide +kernel) (by decide +kernel)
theorem wd39 : Cond.selects RX2 yX2_hasPlace yX2_hasPlace ∈ tblG := gw3 149 (by decide +kernel) (by decide +kernel)
theorem wd40 : Cond.code yX2_hasPlace cX2_hasPlace 2 (some .boolean) ∈ tblG := gw3 150 (by decide +kernel) (by decide +kernel)
theorem pl_X2_hasPlace : Plain yX2_hasPlace 1 := ⟨by decide, by decide, by decide +kernel⟩
theorem lk_X7_143 : LkV RX7 143 2 yX2_hasPlace cX2_hasPlace 2 (some .boolean) 1 := ⟨⟨TX2, 16, rfl⟩, wd37, wd38, wd39, wd6, wd40, pl_X2_hasPlace⟩
theorem wd41 : Cond.methodLink RX7 134 yX2_hasHour ∈ tblG := gw3 126 (by decide +kernel) (by decide +kernel)
theorem lk_X7_134 : LkV RX7 134 2 yX2_hasHour cX2_hasHour 2 (some .boolean) 1 := ⟨⟨TX2, 16, rfl⟩, wd41, wd18, wd19, wd6, wd20, pl_X2_hasHour⟩
theorem wd42 : Cond.methodLink RX7 198 yX2_isTold ∈ tblG := gw4 64 (by decide +kernel) (by decide +kernel)
theorem lk_X7_198 : LkV RX7 198 2 yX2_isTold cX2_isTold 1 (some .boolean) 0 := ⟨⟨TX2, 16, rfl⟩, wd42, wd14, wd15, wd6, wd16, pl_X2_isTold⟩
theorem wd43 : Cond.methodLink RX7 212 yX7_areTwo ∈ tblG := gw4 94 (by decide +kernel) (by decide +kernel)
theorem wd44 : Cond.instanceMethod yX7_areTwo ∈ tblG := gw4 96 (by decide +kernel) (by decide +kernel)
theorem wd45 : Cond.selects RX7 yX7_areTwo yX7_areTwo ∈ tblG := gw0 25 (by decide +kernel) (by decide +kernel)
theorem wd46 : Cond.code yX7_areTwo cX7_areTwo 3 (some .boolean) ∈ tblG := gw4 97 (by decide +kernel) (by decide +kernel)
theorem pl_X7_areTwo : Plain yX7_areTwo 2 := ⟨by decide, by decide, by decide +kernel⟩
theorem lk_X7_212 : LkV RX7 212 7 yX7_areTwo cX7_areTwo 3 (some .boolean) 2 := ⟨⟨TX7, 12, rfl⟩, wd43, wd44, wd45, wd33, wd46, pl_X7_areTwo⟩
theorem wd47 : Cond.methodLink RX7 288 yX7_refusalOfSeen ∈ tblG := gw5 23 (by decide +kernel) (by decide +kernel)
theorem wd48 : Cond.instanceMethod yX7_refusalOfSeen ∈ tblG := gw5 25 (by decide +kernel) (by decide +kernel)
theorem wd49 : Cond.selects RX7 yX7_refusalOfSeen yX7_refusalOfSeen ∈ tblG := gw0 31 (by decide +kernel) (by decide +kernel)
theorem wd50 : Cond.code yX7_refusalOfSeen cX7_refusalOfSeen 3 (some .int) ∈ tblG := gw5 26 (by decide +kernel) (by decide +kernel)
theorem pl_X7_refusalOfSeen : Plain yX7_refusalOfSeen 2 := ⟨by decide, by decide, by decide +kernel⟩
theorem lk_X7_288 : LkV RX7 288 7 yX7_refusalOfSeen cX7_refusalOfSeen 3 (some .int) 2 := ⟨⟨TX7, 12, rfl⟩, wd47, wd48, wd49, wd33, wd50, pl_X7_refusalOfSeen⟩
theorem wd51 : Cond.constantLong RX7 330 (-2) ∈ tblG := gw5 129 (by decide +kernel) (by decide +kernel)
theorem wd52 : Cond.methodLink RX7 327 yX7_isFogHour ∈ tblG := gw5 125 (by decide +kernel) (by decide +kernel)
theorem wd53 : Cond.instanceMethod yX7_isFogHour ∈ tblG := gw5 127 (by decide +kernel) (by decide +kernel)
theorem wd54 : Cond.selects RX7 yX7_isFogHour yX7_isFogHour ∈ tblG := gw0 42 (by decide +kernel) (by decide +kernel)
theorem wd55 : Cond.code yX7_isFogHour cX7_isFogHour 2 (some .boolean) ∈ tblG := gw5 128 (by decide +kernel) (by decide +kernel)
theorem pl_X7_isFogHour : Plain yX7_isFogHour 1 := ⟨by decide, by decide, by decide +kernel⟩
theorem lk_X7_327 : LkV RX7 327 7 yX7_isFogHour cX7_isFogHour 2 (some .boolean) 1 := ⟨⟨TX7, 12, rfl⟩, wd52, wd53, wd54, wd33, wd55, pl_X7_isFogHour⟩
theorem wd56 : Cond.methodLink RX7 361 yX7_isSeed ∈ tblG := gw5 182 (by decide +kernel) (by decide +kernel)
theorem wd57 : Cond.static yX7_isSeed ∈ tblG := gw5 183 (by decide +kernel) (by decide +kernel)
theorem wd58 : Cond.code yX7_isSeed cX7_isSeed 1 (some .boolean) ∈ tblG := gw5 184 (by decide +kernel) (by decide +kernel)
theorem pl_X7_isSeed : Plain yX7_isSeed 1 := ⟨by decide, by decide, by decide +kernel⟩
theorem lk_X7_361 : LkS RX7 361 yX7_isSeed cX7_isSeed 1 (some .boolean) 1 := ⟨wd56, wd57, wd33, wd58, pl_X7_isSeed⟩
theorem wd59 : Cond.methodLink RX7 246 yX7_isFewInARow ∈ tblG := gw4 187 (by decide +kernel) (by decide +kernel)
theorem wd60 : Cond.static yX7_isFewInARow ∈ tblG := gw4 188 (by decide +kernel) (by decide +kernel)
theorem wd61 : Cond.code yX7_isFewInARow cX7_isFewInARow 1 (some .boolean) ∈ tblG := gw4 189 (by decide +kernel) (by decide +kernel)
theorem pl_X7_isFewInARow : Plain yX7_isFewInARow 1 := ⟨by decide, by decide, by decide +kernel⟩
theorem lk_X7_246 : LkS RX7 246 yX7_isFewInARow cX7_isFewInARow 1 (some .boolean) 1 := ⟨wd59, wd60, wd33, wd61, pl_X7_isFewInARow⟩
