theorem dX8_room_0 : decode cX8_room 0 = .ok (.aload_n 0, 1) := by decide +kernel
theorem dX8_room_1 : decode cX8_room 1 = .ok (.iload_n 1, 1) := by decide +kernel
theorem dX8_room_2 : decode cX8_room 2 = .ok (.i2l, 1) := by decide +kernel
theorem dX8_room_3 : decode cX8_room 3 = .ok (.invokevirtual 118, 3) := by decide +kernel
theorem dX8_room_6 : decode cX8_room 6 = .ok (.ifCond .eq 15, 3) := by decide +kernel
theorem dX8_room_9 : decode cX8_room 9 = .ok (.aload_n 0, 1) := by decide +kernel
theorem dX8_room_10 : decode cX8_room 10 = .ok (.getfield 9, 3) := by decide +kernel
theorem dX8_room_13 : decode cX8_room 13 = .ok (.bipush 10, 2) := by decide +kernel
theorem dX8_room_15 : decode cX8_room 15 = .ok (.iload_n 1, 1) := by decide +kernel
theorem dX8_room_16 : decode cX8_room 16 = .ok (.iadd, 1) := by decide +kernel
theorem dX8_room_17 : decode cX8_room 17 = .ok (.iaload, 1) := by decide +kernel
theorem dX8_room_18 : decode cX8_room 18 = .ok (.goto 5, 3) := by decide +kernel
theorem dX8_room_21 : decode cX8_room 21 = .ok (.bipush (-2), 2) := by decide +kernel
theorem dX8_room_23 : decode cX8_room 23 = .ok (.ireturn, 1) := by decide +kernel
theorem dX8_roads_0 : decode cX8_roads 0 = .ok (.aload_n 0, 1) := by decide +kernel
theorem dX8_roads_1 : decode cX8_roads 1 = .ok (.iload_n 1, 1) := by decide +kernel
theorem dX8_roads_2 : decode cX8_roads 2 = .ok (.i2l, 1) := by decide +kernel
theorem dX8_roads_3 : decode cX8_roads 3 = .ok (.invokevirtual 112, 3) := by decide +kernel
theorem dX8_roads_6 : decode cX8_roads 6 = .ok (.ifCond .eq 11, 3) := by decide +kernel
theorem dX8_roads_9 : decode cX8_roads 9 = .ok (.aload_n 0, 1) := by decide +kernel
theorem dX8_roads_10 : decode cX8_roads 10 = .ok (.iload_n 1, 1) := by decide +kernel
theorem dX8_roads_11 : decode cX8_roads 11 = .ok (.invokevirtual 245, 3) := by decide +kernel
theorem dX8_roads_14 : decode cX8_roads 14 = .ok (.goto 5, 3) := by decide +kernel
theorem dX8_roads_17 : decode cX8_roads 17 = .ok (.bipush (-2), 2) := by decide +kernel
theorem dX8_roads_19 : decode cX8_roads 19 = .ok (.ireturn, 1) := by decide +kernel
theorem dX8_goes_0 : decode cX8_goes 0 = .ok (.aload_n 0, 1) := by decide +kernel
theorem dX8_goes_1 : decode cX8_goes 1 = .ok (.iload_n 1, 1) := by decide +kernel
theorem dX8_goes_2 : decode cX8_goes 2 = .ok (.i2l, 1) := by decide +kernel
theorem dX8_goes_3 : decode cX8_goes 3 = .ok (.invokevirtual 112, 3) := by decide +kernel
theorem dX8_goes_6 : decode cX8_goes 6 = .ok (.ifCond .eq 7, 3) := by decide +kernel
theorem dX8_goes_9 : decode cX8_goes 9 = .ok (.iload_n 2, 1) := by decide +kernel
theorem dX8_goes_10 : decode cX8_goes 10 = .ok (.ifCond .ge 6, 3) := by decide +kernel
theorem dX8_goes_13 : decode cX8_goes 13 = .ok (.bipush (-2), 2) := by decide +kernel
theorem dX8_goes_15 : decode cX8_goes 15 = .ok (.ireturn, 1) := by decide +kernel
theorem dX8_goes_16 : decode cX8_goes 16 = .ok (.iload_n 2, 1) := by decide +kernel
theorem dX8_goes_17 : decode cX8_goes 17 = .ok (.aload_n 0, 1) := by decide +kernel
theorem dX8_goes_18 : decode cX8_goes 18 = .ok (.iload_n 1, 1) := by decide +kernel
theorem dX8_goes_19 : decode cX8_goes 19 = .ok (.invokevirtual 245, 3) := by decide +kernel
theorem dX8_goes_22 : decode cX8_goes 22 = .ok (.if_icmp .ge 12, 3) := by decide +kernel
theorem dX8_goes_25 : decode cX8_goes 25 = .ok (.aload_n 0, 1) := by decide +kernel
theorem dX8_goes_26 : decode cX8_goes 26 = .ok (.iload_n 1, 1) := by decide +kernel
theorem dX8_goes_27 : decode cX8_goes 27 = .ok (.iload_n 2, 1) := by decide +kernel
theorem dX8_goes_28 : decode cX8_goes 28 = .ok (.invokevirtual 248, 3) := by decide +kernel
theorem dX8_goes_31 : decode cX8_goes 31 = .ok (.goto 4, 3) := by decide +kernel
theorem dX8_goes_34 : decode cX8_goes 34 = .ok (.iconst (-1), 1) := by decide +kernel
theorem dX8_goes_35 : decode cX8_goes 35 = .ok (.ireturn, 1) := by decide +kernel
theorem dX8_told_0 : decode cX8_told 0 = .ok (.aload_n 0, 1) := by decide +kernel
theorem dX8_told_1 : decode cX8_told 1 = .ok (.iload_n 1, 1) := by decide +kernel
theorem dX8_told_2 : decode cX8_told 2 = .ok (.i2l, 1) := by decide +kernel
theorem dX8_told_3 : decode cX8_told 3 = .ok (.invokevirtual 112, 3) := by decide +kernel
theorem dX8_told_6 : decode cX8_told 6 = .ok (.ifCond .ne 8, 3) := by decide +kernel
theorem dX8_told_9 : decode cX8_told 9 = .ok (.bipush (-2), 2) := by decide +kernel
theorem dX8_told_11 : decode cX8_told 11 = .ok (.goto 20, 3) := by decide +kernel
theorem dX8_told_14 : decode cX8_told 14 = .ok (.aload_n 0, 1) := by decide +kernel
theorem dX8_told_15 : decode cX8_told 15 = .ok (.iload_n 1, 1) := by decide +kernel
theorem dX8_told_16 : decode cX8_told 16 = .ok (.invokevirtual 245, 3) := by decide +kernel
theorem dX8_told_19 : decode cX8_told 19 = .ok (.ifCond .ne 7, 3) := by decide +kernel
theorem dX8_told_22 : decode cX8_told 22 = .ok (.iconst (-1), 1) := by decide +kernel
theorem dX8_told_23 : decode cX8_told 23 = .ok (.goto 8, 3) := by decide +kernel
theorem dX8_told_26 : decode cX8_told 26 = .ok (.aload_n 0, 1) := by decide +kernel
theorem dX8_told_27 : decode cX8_told 27 = .ok (.iload_n 1, 1) := by decide +kernel
theorem dX8_told_28 : decode cX8_told 28 = .ok (.invokevirtual 251, 3) := by decide +kernel
theorem dX8_told_31 : decode cX8_told 31 = .ok (.ireturn, 1) := by decide +kernel
theorem dX8_walker_0 : decode cX8_walker 0 = .ok (.aload_n 0, 1) := by decide +kernel
theorem dX8_walker_1 : decode cX8_walker 1 = .ok (.iload_n 1, 1) := by decide +kernel
theorem dX8_walker_2 : decode cX8_walker 2 = .ok (.i2l, 1) := by decide +kernel
theorem dX8_walker_3 : decode cX8_walker 3 = .ok (.invokevirtual 254, 3) := by decide +kernel
theorem dX8_walker_6 : decode cX8_walker 6 = .ok (.ifCond .eq 29, 3) := by decide +kernel
theorem dX8_walker_9 : decode cX8_walker 9 = .ok (.iload_n 2, 1) := by decide +kernel
theorem dX8_walker_10 : decode cX8_walker 10 = .ok (.i2l, 1) := by decide +kernel
theorem dX8_walker_11 : decode cX8_walker 11 = .ok (.lconst 0, 1) := by decide +kernel
theorem dX8_walker_12 : decode cX8_walker 12 = .ok (.lconst 1, 1) := by decide +kernel
theorem dX8_walker_13 : decode cX8_walker 13 = .ok (.invokestatic 94, 3) := by decide +kernel
theorem dX8_walker_16 : decode cX8_walker 16 = .ok (.ifCond .eq 19, 3) := by decide +kernel
theorem dX8_walker_19 : decode cX8_walker 19 = .ok (.aload_n 0, 1) := by decide +kernel
theorem dX8_walker_20 : decode cX8_walker 20 = .ok (.getfield 9, 3) := by decide +kernel
theorem dX8_walker_23 : decode cX8_walker 23 = .ok (.bipush 56, 2) := by decide +kernel
theorem dX8_walker_25 : decode cX8_walker 25 = .ok (.iconst 2, 1) := by decide +kernel
theorem dX8_walker_26 : decode cX8_walker 26 = .ok (.iload_n 1, 1) := by decide +kernel
theorem dX8_walker_27 : decode cX8_walker 27 = .ok (.imul, 1) := by decide +kernel
theorem dX8_walker_28 : decode cX8_walker 28 = .ok (.iadd, 1) := by decide +kernel
theorem dX8_walker_29 : decode cX8_walker 29 = .ok (.iload_n 2, 1) := by decide +kernel
theorem dX8_walker_30 : decode cX8_walker 30 = .ok (.iadd, 1) := by decide +kernel
theorem dX8_walker_31 : decode cX8_walker 31 = .ok (.iaload, 1) := by decide +kernel
theorem dX8_walker_32 : decode cX8_walker 32 = .ok (.goto 5, 3) := by decide +kernel
theorem dX8_walker_35 : decode cX8_walker 35 = .ok (.bipush (-2), 2) := by decide +kernel
theorem dX8_walker_37 : decode cX8_walker 37 = .ok (.ireturn, 1) := by decide +kernel
theorem dX8_doors_0 : decode cX8_doors 0 = .ok (.aload_n 0, 1) := by decide +kernel
theorem dX8_doors_1 : decode cX8_doors 1 = .ok (.iload_n 1, 1) := by decide +kernel
theorem dX8_doors_2 : decode cX8_doors 2 = .ok (.i2l, 1) := by decide +kernel
theorem dX8_doors_3 : decode cX8_doors 3 = .ok (.invokevirtual 112, 3) := by decide +kernel
theorem dX8_doors_6 : decode cX8_doors 6 = .ok (.ifCond .ne 6, 3) := by decide +kernel
theorem dX8_doors_9 : decode cX8_doors 9 = .ok (.bipush (-2), 2) := by decide +kernel
theorem dX8_doors_11 : decode cX8_doors 11 = .ok (.ireturn, 1) := by decide +kernel
theorem dX8_doors_12 : decode cX8_doors 12 = .ok (.iconst 0, 1) := by decide +kernel
theorem dX8_doors_13 : decode cX8_doors 13 = .ok (.istore_n 2, 1) := by decide +kernel
theorem dX8_doors_14 : decode cX8_doors 14 = .ok (.iconst 0, 1) := by decide +kernel
theorem dX8_doors_15 : decode cX8_doors 15 = .ok (.istore_n 3, 1) := by decide +kernel
theorem dX8_doors_16 : decode cX8_doors 16 = .ok (.iload_n 3, 1) := by decide +kernel
theorem dX8_doors_17 : decode cX8_doors 17 = .ok (.aload_n 0, 1) := by decide +kernel
theorem dX8_doors_18 : decode cX8_doors 18 = .ok (.iload_n 1, 1) := by decide +kernel
theorem dX8_doors_19 : decode cX8_doors 19 = .ok (.invokevirtual 245, 3) := by decide +kernel
theorem dX8_doors_22 : decode cX8_doors 22 = .ok (.if_icmp .ge 38, 3) := by decide +kernel
theorem dX8_doors_25 : decode cX8_doors 25 = .ok (.iload_n 2, 1) := by decide +kernel
theorem dX8_doors_26 : decode cX8_doors 26 = .ok (.aload_n 0, 1) := by decide +kernel
theorem dX8_doors_27 : decode cX8_doors 27 = .ok (.iload_n 1, 1) := by decide +kernel
theorem dX8_doors_28 : decode cX8_doors 28 = .ok (.iload_n 3, 1) := by decide +kernel
theorem dX8_doors_29 : decode cX8_doors 29 = .ok (.invokevirtual 248, 3) := by decide +kernel
theorem dX8_doors_32 : decode cX8_doors 32 = .ok (.bipush 10, 2) := by decide +kernel
theorem dX8_doors_34 : decode cX8_doors 34 = .ok (.if_icmp .ge 7, 3) := by decide +kernel
theorem dX8_doors_37 : decode cX8_doors 37 = .ok (.iconst 0, 1) := by decide +kernel
theorem dX8_doors_38 : decode cX8_doors 38 = .ok (.goto 14, 3) := by decide +kernel
theorem dX8_doors_41 : decode cX8_doors 41 = .ok (.iconst 1, 1) := by decide +kernel
theorem dX8_doors_42 : decode cX8_doors 42 = .ok (.aload_n 0, 1) := by decide +kernel
theorem dX8_doors_43 : decode cX8_doors 43 = .ok (.iload_n 1, 1) := by decide +kernel
theorem dX8_doors_44 : decode cX8_doors 44 = .ok (.iload_n 3, 1) := by decide +kernel
theorem dX8_doors_45 : decode cX8_doors 45 = .ok (.invokevirtual 248, 3) := by decide +kernel
theorem dX8_doors_48 : decode cX8_doors 48 = .ok (.bipush 10, 2) := by decide +kernel
theorem dX8_doors_50 : decode cX8_doors 50 = .ok (.isub, 1) := by decide +kernel
theorem dX8_doors_51 : decode cX8_doors 51 = .ok (.ishl, 1) := by decide +kernel
theorem dX8_doors_52 : decode cX8_doors 52 = .ok (.ior, 1) := by decide +kernel
theorem dX8_doors_53 : decode cX8_doors 53 = .ok (.istore_n 2, 1) := by decide +kernel
theorem dX8_doors_54 : decode cX8_doors 54 = .ok (.iinc 3 1, 3) := by decide +kernel
theorem dX8_doors_57 : decode cX8_doors 57 = .ok (.goto (-41), 3) := by decide +kernel
theorem dX8_doors_60 : decode cX8_doors 60 = .ok (.iload_n 2, 1) := by decide +kernel
theorem dX8_doors_61 : decode cX8_doors 61 = .ok (.ireturn, 1) := by decide +kernel
theorem dX8_armless_0 : decode cX8_armless 0 = .ok (.aload_n 0, 1) := by decide +kernel
theorem dX8_armless_1 : decode cX8_armless 1 = .ok (.invokevirtual 102, 3) := by decide +kernel
theorem dX8_armless_4 : decode cX8_armless 4 = .ok (.ifCond .ne 6, 3) := by decide +kernel
theorem dX8_armless_7 : decode cX8_armless 7 = .ok (.bipush (-2), 2) := by decide +kernel
theorem dX8_armless_9 : decode cX8_armless 9 = .ok (.ireturn, 1) := by decide +kernel
theorem dX8_armless_10 : decode cX8_armless 10 = .ok (.iconst 0, 1) := by decide +kernel
theorem dX8_armless_11 : decode cX8_armless 11 = .ok (.istore_n 1, 1) := by decide +kernel
theorem dX8_armless_12 : decode cX8_armless 12 = .ok (.iconst 0, 1) := by decide +kernel
theorem dX8_armless_13 : decode cX8_armless 13 = .ok (.istore_n 2, 1) := by decide +kernel
theorem dX8_armless_14 : decode cX8_armless 14 = .ok (.iload_n 2, 1) := by decide +kernel
theorem dX8_armless_15 : decode cX8_armless 15 = .ok (.aload_n 0, 1) := by decide +kernel
theorem dX8_armless_16 : decode cX8_armless 16 = .ok (.invokevirtual 98, 3) := by decide +kernel
theorem dX8_armless_19 : decode cX8_armless 19 = .ok (.if_icmp .ge 27, 3) := by decide +kernel
theorem dX8_armless_22 : decode cX8_armless 22 = .ok (.iload_n 1, 1) := by decide +kernel
theorem dX8_armless_23 : decode cX8_armless 23 = .ok (.aload_n 0, 1) := by decide +kernel
theorem dX8_armless_24 : decode cX8_armless 24 = .ok (.iload_n 2, 1) := by decide +kernel
theorem dX8_armless_25 : decode cX8_armless 25 = .ok (.invokevirtual 245, 3) := by decide +kernel
theorem dX8_armless_28 : decode cX8_armless 28 = .ok (.ifCond .ne 9, 3) := by decide +kernel
theorem dX8_armless_31 : decode cX8_armless 31 = .ok (.iconst 1, 1) := by decide +kernel
theorem dX8_armless_32 : decode cX8_armless 32 = .ok (.iload_n 2, 1) := by decide +kernel
theorem dX8_armless_33 : decode cX8_armless 33 = .ok (.ishl, 1) := by decide +kernel
theorem dX8_armless_34 : decode cX8_armless 34 = .ok (.goto 4, 3) := by decide +kernel
theorem dX8_armless_37 : decode cX8_armless 37 = .ok (.iconst 0, 1) := by decide +kernel
theorem dX8_armless_38 : decode cX8_armless 38 = .ok (.ior, 1) := by decide +kernel
theorem dX8_armless_39 : decode cX8_armless 39 = .ok (.istore_n 1, 1) := by decide +kernel
theorem dX8_armless_40 : decode cX8_armless 40 = .ok (.iinc 2 1, 3) := by decide +kernel
theorem dX8_armless_43 : decode cX8_armless 43 = .ok (.goto (-29), 3) := by decide +kernel
theorem dX8_armless_46 : decode cX8_armless 46 = .ok (.iload_n 1, 1) := by decide +kernel
theorem dX8_armless_47 : decode cX8_armless 47 = .ok (.ireturn, 1) := by decide +kernel
theorem dX8_asksHeath_0 : decode cX8_asksHeath 0 = .ok (.aload_n 0, 1) := by decide +kernel
theorem dX8_asksHeath_1 : decode cX8_asksHeath 1 = .ok (.invokevirtual 286, 3) := by decide +kernel
theorem dX8_asksHeath_4 : decode cX8_asksHeath 4 = .ok (.aload_n 0, 1) := by decide +kernel
theorem dX8_asksHeath_5 : decode cX8_asksHeath 5 = .ok (.invokevirtual 289, 3) := by decide +kernel
theorem dX8_asksHeath_8 : decode cX8_asksHeath 8 = .ok (.aload_n 0, 1) := by decide +kernel
theorem dX8_asksHeath_9 : decode cX8_asksHeath 9 = .ok (.invokevirtual 102, 3) := by decide +kernel
theorem dX8_asksHeath_12 : decode cX8_asksHeath 12 = .ok (.ireturn, 1) := by decide +kernel
theorem dX8_asksHour_0 : decode cX8_asksHour 0 = .ok (.aload_n 0, 1) := by decide +kernel
theorem dX8_asksHour_1 : decode cX8_asksHour 1 = .ok (.invokevirtual 292, 3) := by decide +kernel
theorem dX8_asksHour_4 : decode cX8_asksHour 4 = .ok (.pop, 1) := by decide +kernel
theorem dX8_asksHour_5 : decode cX8_asksHour 5 = .ok (.aload_n 0, 1) := by decide +kernel
theorem dX8_asksHour_6 : decode cX8_asksHour 6 = .ok (.iload_n 1, 1) := by decide +kernel
theorem dX8_asksHour_7 : decode cX8_asksHour 7 = .ok (.i2l, 1) := by decide +kernel
theorem dX8_asksHour_8 : decode cX8_asksHour 8 = .ok (.invokevirtual 295, 3) := by decide +kernel
theorem dX8_asksHour_11 : decode cX8_asksHour 11 = .ok (.ireturn, 1) := by decide +kernel
theorem dX8_asksWalker_0 : decode cX8_asksWalker 0 = .ok (.aload_n 0, 1) := by decide +kernel
theorem dX8_asksWalker_1 : decode cX8_asksWalker 1 = .ok (.invokevirtual 292, 3) := by decide +kernel
theorem dX8_asksWalker_4 : decode cX8_asksWalker 4 = .ok (.pop, 1) := by decide +kernel
theorem dX8_asksWalker_5 : decode cX8_asksWalker 5 = .ok (.aload_n 0, 1) := by decide +kernel
theorem dX8_asksWalker_6 : decode cX8_asksWalker 6 = .ok (.iload_n 1, 1) := by decide +kernel
theorem dX8_asksWalker_7 : decode cX8_asksWalker 7 = .ok (.i2l, 1) := by decide +kernel
theorem dX8_asksWalker_8 : decode cX8_asksWalker 8 = .ok (.invokevirtual 254, 3) := by decide +kernel
theorem dX8_asksWalker_11 : decode cX8_asksWalker 11 = .ok (.ireturn, 1) := by decide +kernel
theorem dX8_asksPost_0 : decode cX8_asksPost 0 = .ok (.aload_n 0, 1) := by decide +kernel
theorem dX8_asksPost_1 : decode cX8_asksPost 1 = .ok (.invokevirtual 292, 3) := by decide +kernel
theorem dX8_asksPost_4 : decode cX8_asksPost 4 = .ok (.pop, 1) := by decide +kernel
theorem dX8_asksPost_5 : decode cX8_asksPost 5 = .ok (.aload_n 0, 1) := by decide +kernel
theorem dX8_asksPost_6 : decode cX8_asksPost 6 = .ok (.iload_n 1, 1) := by decide +kernel
theorem dX8_asksPost_7 : decode cX8_asksPost 7 = .ok (.i2l, 1) := by decide +kernel
theorem dX8_asksPost_8 : decode cX8_asksPost 8 = .ok (.invokevirtual 112, 3) := by decide +kernel
theorem dX8_asksPost_11 : decode cX8_asksPost 11 = .ok (.ireturn, 1) := by decide +kernel
theorem dX8_placeOf_0 : decode cX8_placeOf 0 = .ok (.aload_n 0, 1) := by decide +kernel
theorem dX8_placeOf_1 : decode cX8_placeOf 1 = .ok (.getfield 46, 3) := by decide +kernel
theorem dX8_placeOf_4 : decode cX8_placeOf 4 = .ok (.bipush 8, 2) := by decide +kernel
theorem dX8_placeOf_6 : decode cX8_placeOf 6 = .ok (.iload_n 2, 1) := by decide +kernel
theorem dX8_placeOf_7 : decode cX8_placeOf 7 = .ok (.imul, 1) := by decide +kernel
theorem dX8_placeOf_8 : decode cX8_placeOf 8 = .ok (.iload_n 1, 1) := by decide +kernel
theorem dX8_placeOf_9 : decode cX8_placeOf 9 = .ok (.iadd, 1) := by decide +kernel
theorem dX8_placeOf_10 : decode cX8_placeOf 10 = .ok (.iaload, 1) := by decide +kernel
theorem dX8_placeOf_11 : decode cX8_placeOf 11 = .ok (.ireturn, 1) := by decide +kernel
theorem dX8_isInside_0 : decode cX8_isInside 0 = .ok (.aload_n 0, 1) := by decide +kernel
theorem dX8_isInside_1 : decode cX8_isInside 1 = .ok (.iload_n 1, 1) := by decide +kernel
theorem dX8_isInside_2 : decode cX8_isInside 2 = .ok (.iload_n 2, 1) := by decide +kernel
theorem dX8_isInside_3 : decode cX8_isInside 3 = .ok (.invokevirtual 298, 3) := by decide +kernel
theorem dX8_isInside_6 : decode cX8_isInside 6 = .ok (.bipush 10, 2) := by decide +kernel
theorem dX8_isInside_8 : decode cX8_isInside 8 = .ok (.if_icmp .lt 7, 3) := by decide +kernel
theorem dX8_isInside_11 : decode cX8_isInside 11 = .ok (.iconst 1, 1) := by decide +kernel
theorem dX8_isInside_12 : decode cX8_isInside 12 = .ok (.goto 4, 3) := by decide +kernel
theorem dX8_isInside_15 : decode cX8_isInside 15 = .ok (.iconst 0, 1) := by decide +kernel
theorem dX8_isInside_16 : decode cX8_isInside 16 = .ok (.ireturn, 1) := by decide +kernel
theorem dX8_at_0 : decode cX8_at 0 = .ok (.aload_n 0, 1) := by decide +kernel
theorem dX8_at_1 : decode cX8_at 1 = .ok (.iload_n 2, 1) := by decide +kernel
theorem dX8_at_2 : decode cX8_at 2 = .ok (.invokevirtual 301, 3) := by decide +kernel
theorem dX8_at_5 : decode cX8_at 5 = .ok (.ifCond .eq 21, 3) := by decide +kernel
theorem dX8_at_8 : decode cX8_at 8 = .ok (.aload_n 0, 1) := by decide +kernel
theorem dX8_at_9 : decode cX8_at 9 = .ok (.iload_n 1, 1) := by decide +kernel
theorem dX8_at_10 : decode cX8_at 10 = .ok (.i2l, 1) := by decide +kernel
theorem dX8_at_11 : decode cX8_at 11 = .ok (.invokevirtual 254, 3) := by decide +kernel
theorem dX8_at_14 : decode cX8_at 14 = .ok (.ifCond .eq 12, 3) := by decide +kernel
theorem dX8_at_17 : decode cX8_at 17 = .ok (.aload_n 0, 1) := by decide +kernel
theorem dX8_at_18 : decode cX8_at 18 = .ok (.iload_n 1, 1) := by decide +kernel
theorem dX8_at_19 : decode cX8_at 19 = .ok (.iload_n 2, 1) := by decide +kernel
theorem dX8_at_20 : decode cX8_at 20 = .ok (.invokevirtual 298, 3) := by decide +kernel
theorem dX8_at_23 : decode cX8_at 23 = .ok (.goto 5, 3) := by decide +kernel
theorem dX8_at_26 : decode cX8_at 26 = .ok (.bipush (-2), 2) := by decide +kernel
theorem dX8_at_28 : decode cX8_at 28 = .ok (.ireturn, 1) := by decide +kernel
theorem dX8_arm_0 : decode cX8_arm 0 = .ok (.aload_n 0, 1) := by decide +kernel
theorem dX8_arm_1 : decode cX8_arm 1 = .ok (.iload_n 2, 1) := by decide +kernel
theorem dX8_arm_2 : decode cX8_arm 2 = .ok (.invokevirtual 301, 3) := by decide +kernel
theorem dX8_arm_5 : decode cX8_arm 5 = .ok (.ifCond .eq 12, 3) := by decide +kernel
theorem dX8_arm_8 : decode cX8_arm 8 = .ok (.aload_n 0, 1) := by decide +kernel
theorem dX8_arm_9 : decode cX8_arm 9 = .ok (.iload_n 1, 1) := by decide +kernel
theorem dX8_arm_10 : decode cX8_arm 10 = .ok (.i2l, 1) := by decide +kernel
theorem dX8_arm_11 : decode cX8_arm 11 = .ok (.invokevirtual 112, 3) := by decide +kernel
theorem dX8_arm_14 : decode cX8_arm 14 = .ok (.ifCond .ne 6, 3) := by decide +kernel
theorem dX8_arm_17 : decode cX8_arm 17 = .ok (.bipush (-2), 2) := by decide +kernel
theorem dX8_arm_19 : decode cX8_arm 19 = .ok (.ireturn, 1) := by decide +kernel
theorem dX8_arm_20 : decode cX8_arm 20 = .ok (.aload_n 0, 1) := by decide +kernel
theorem dX8_arm_21 : decode cX8_arm 21 = .ok (.iload_n 1, 1) := by decide +kernel
theorem dX8_arm_22 : decode cX8_arm 22 = .ok (.invokevirtual 245, 3) := by decide +kernel
theorem dX8_arm_25 : decode cX8_arm 25 = .ok (.ifCond .ne 7, 3) := by decide +kernel
theorem dX8_arm_28 : decode cX8_arm 28 = .ok (.iconst (-1), 1) := by decide +kernel
theorem dX8_arm_29 : decode cX8_arm 29 = .ok (.goto 14, 3) := by decide +kernel
theorem dX8_arm_32 : decode cX8_arm 32 = .ok (.aload_n 0, 1) := by decide +kernel
theorem dX8_arm_33 : decode cX8_arm 33 = .ok (.getfield 49, 3) := by decide +kernel
theorem dX8_arm_36 : decode cX8_arm 36 = .ok (.bipush 7, 2) := by decide +kernel
theorem dX8_arm_38 : decode cX8_arm 38 = .ok (.iload_n 2, 1) := by decide +kernel
theorem dX8_arm_39 : decode cX8_arm 39 = .ok (.imul, 1) := by decide +kernel
theorem dX8_arm_40 : decode cX8_arm 40 = .ok (.iload_n 1, 1) := by decide +kernel
theorem dX8_arm_41 : decode cX8_arm 41 = .ok (.iadd, 1) := by decide +kernel
theorem dX8_arm_42 : decode cX8_arm 42 = .ok (.iaload, 1) := by decide +kernel
theorem dX8_arm_43 : decode cX8_arm 43 = .ok (.ireturn, 1) := by decide +kernel
theorem dX8_hereOf_0 : decode cX8_hereOf 0 = .ok (.iconst 0, 1) := by decide +kernel
theorem dX8_hereOf_1 : decode cX8_hereOf 1 = .ok (.istore_n 3, 1) := by decide +kernel
theorem dX8_hereOf_2 : decode cX8_hereOf 2 = .ok (.iconst 0, 1) := by decide +kernel
theorem dX8_hereOf_3 : decode cX8_hereOf 3 = .ok (.istore 4, 2) := by decide +kernel
theorem dX8_hereOf_5 : decode cX8_hereOf 5 = .ok (.iload 4, 2) := by decide +kernel
theorem dX8_hereOf_7 : decode cX8_hereOf 7 = .ok (.aload_n 0, 1) := by decide +kernel
theorem dX8_hereOf_8 : decode cX8_hereOf 8 = .ok (.invokevirtual 109, 3) := by decide +kernel
theorem dX8_hereOf_11 : decode cX8_hereOf 11 = .ok (.if_icmp .ge 31, 3) := by decide +kernel
theorem dX8_hereOf_14 : decode cX8_hereOf 14 = .ok (.iload_n 3, 1) := by decide +kernel
theorem dX8_hereOf_15 : decode cX8_hereOf 15 = .ok (.aload_n 0, 1) := by decide +kernel
theorem dX8_hereOf_16 : decode cX8_hereOf 16 = .ok (.iload 4, 2) := by decide +kernel
theorem dX8_hereOf_18 : decode cX8_hereOf 18 = .ok (.iload_n 2, 1) := by decide +kernel
theorem dX8_hereOf_19 : decode cX8_hereOf 19 = .ok (.invokevirtual 298, 3) := by decide +kernel
theorem dX8_hereOf_22 : decode cX8_hereOf 22 = .ok (.iload_n 1, 1) := by decide +kernel
theorem dX8_hereOf_23 : decode cX8_hereOf 23 = .ok (.if_icmp .ne 10, 3) := by decide +kernel
theorem dX8_hereOf_26 : decode cX8_hereOf 26 = .ok (.iconst 1, 1) := by decide +kernel
theorem dX8_hereOf_27 : decode cX8_hereOf 27 = .ok (.iload 4, 2) := by decide +kernel
theorem dX8_hereOf_29 : decode cX8_hereOf 29 = .ok (.ishl, 1) := by decide +kernel
theorem dX8_hereOf_30 : decode cX8_hereOf 30 = .ok (.goto 4, 3) := by decide +kernel
theorem dX8_hereOf_33 : decode cX8_hereOf 33 = .ok (.iconst 0, 1) := by decide +kernel
theorem dX8_hereOf_34 : decode cX8_hereOf 34 = .ok (.ior, 1) := by decide +kernel
theorem dX8_hereOf_35 : decode cX8_hereOf 35 = .ok (.istore_n 3, 1) := by decide +kernel
theorem dX8_hereOf_36 : decode cX8_hereOf 36 = .ok (.iinc 4 1, 3) := by decide +kernel
theorem dX8_hereOf_39 : decode cX8_hereOf 39 = .ok (.goto (-34), 3) := by decide +kernel
theorem dX8_hereOf_42 : decode cX8_hereOf 42 = .ok (.iload_n 3, 1) := by decide +kernel
theorem dX8_hereOf_43 : decode cX8_hereOf 43 = .ok (.ireturn, 1) := by decide +kernel
theorem dX8_here_0 : decode cX8_here 0 = .ok (.aload_n 0, 1) := by decide +kernel
theorem dX8_here_1 : decode cX8_here 1 = .ok (.iload_n 2, 1) := by decide +kernel
theorem dX8_here_2 : decode cX8_here 2 = .ok (.invokevirtual 301, 3) := by decide +kernel
theorem dX8_here_5 : decode cX8_here 5 = .ok (.ifCond .eq 21, 3) := by decide +kernel
theorem dX8_here_8 : decode cX8_here 8 = .ok (.aload_n 0, 1) := by decide +kernel
theorem dX8_here_9 : decode cX8_here 9 = .ok (.iload_n 1, 1) := by decide +kernel
theorem dX8_here_10 : decode cX8_here 10 = .ok (.i2l, 1) := by decide +kernel
theorem dX8_here_11 : decode cX8_here 11 = .ok (.invokevirtual 305, 3) := by decide +kernel
theorem dX8_here_14 : decode cX8_here 14 = .ok (.ifCond .eq 12, 3) := by decide +kernel
theorem dX8_here_17 : decode cX8_here 17 = .ok (.aload_n 0, 1) := by decide +kernel
theorem dX8_here_18 : decode cX8_here 18 = .ok (.iload_n 1, 1) := by decide +kernel
theorem dX8_here_19 : decode cX8_here 19 = .ok (.iload_n 2, 1) := by decide +kernel
theorem dX8_here_20 : decode cX8_here 20 = .ok (.invokevirtual 308, 3) := by decide +kernel
theorem dX8_here_23 : decode cX8_here 23 = .ok (.goto 5, 3) := by decide +kernel
theorem dX8_here_26 : decode cX8_here 26 = .ok (.bipush (-2), 2) := by decide +kernel
theorem dX8_here_28 : decode cX8_here 28 = .ok (.ireturn, 1) := by decide +kernel
theorem dX8_sent_0 : decode cX8_sent 0 = .ok (.aload_n 0, 1) := by decide +kernel
theorem dX8_sent_1 : decode cX8_sent 1 = .ok (.invokevirtual 292, 3) := by decide +kernel
theorem dX8_sent_4 : decode cX8_sent 4 = .ok (.pop, 1) := by decide +kernel
theorem dX8_sent_5 : decode cX8_sent 5 = .ok (.aload_n 0, 1) := by decide +kernel
theorem dX8_sent_6 : decode cX8_sent 6 = .ok (.iload_n 1, 1) := by decide +kernel
theorem dX8_sent_7 : decode cX8_sent 7 = .ok (.i2l, 1) := by decide +kernel
theorem dX8_sent_8 : decode cX8_sent 8 = .ok (.invokevirtual 311, 3) := by decide +kernel
theorem dX8_sent_11 : decode cX8_sent 11 = .ok (.ifCond .eq 12, 3) := by decide +kernel
theorem dX8_sent_14 : decode cX8_sent 14 = .ok (.aload_n 0, 1) := by decide +kernel
theorem dX8_sent_15 : decode cX8_sent 15 = .ok (.getfield 52, 3) := by decide +kernel
theorem dX8_sent_18 : decode cX8_sent 18 = .ok (.iload_n 1, 1) := by decide +kernel
theorem dX8_sent_19 : decode cX8_sent 19 = .ok (.iaload, 1) := by decide +kernel
theorem dX8_sent_20 : decode cX8_sent 20 = .ok (.goto 5, 3) := by decide +kernel
theorem dX8_sent_23 : decode cX8_sent 23 = .ok (.bipush (-2), 2) := by decide +kernel
theorem dX8_sent_25 : decode cX8_sent 25 = .ok (.ireturn, 1) := by decide +kernel
theorem dX8_sendsOf_0 : decode cX8_sendsOf 0 = .ok (.iconst 0, 1) := by decide +kernel
theorem dX8_sendsOf_1 : decode cX8_sendsOf 1 = .ok (.istore_n 2, 1) := by decide +kernel
theorem dX8_sendsOf_2 : decode cX8_sendsOf 2 = .ok (.iconst 0, 1) := by decide +kernel
theorem dX8_sendsOf_3 : decode cX8_sendsOf 3 = .ok (.istore_n 3, 1) := by decide +kernel
theorem dX8_sendsOf_4 : decode cX8_sendsOf 4 = .ok (.iload_n 3, 1) := by decide +kernel
theorem dX8_sendsOf_5 : decode cX8_sendsOf 5 = .ok (.iconst 4, 1) := by decide +kernel
theorem dX8_sendsOf_6 : decode cX8_sendsOf 6 = .ok (.if_icmp .ge 22, 3) := by decide +kernel
theorem dX8_sendsOf_9 : decode cX8_sendsOf 9 = .ok (.iload_n 2, 1) := by decide +kernel
theorem dX8_sendsOf_10 : decode cX8_sendsOf 10 = .ok (.aload_n 0, 1) := by decide +kernel
theorem dX8_sendsOf_11 : decode cX8_sendsOf 11 = .ok (.getfield 55, 3) := by decide +kernel
theorem dX8_sendsOf_14 : decode cX8_sendsOf 14 = .ok (.iconst 4, 1) := by decide +kernel
theorem dX8_sendsOf_15 : decode cX8_sendsOf 15 = .ok (.iload_n 1, 1) := by decide +kernel
theorem dX8_sendsOf_16 : decode cX8_sendsOf 16 = .ok (.imul, 1) := by decide +kernel
theorem dX8_sendsOf_17 : decode cX8_sendsOf 17 = .ok (.iload_n 3, 1) := by decide +kernel
theorem dX8_sendsOf_18 : decode cX8_sendsOf 18 = .ok (.iadd, 1) := by decide +kernel
theorem dX8_sendsOf_19 : decode cX8_sendsOf 19 = .ok (.iaload, 1) := by decide +kernel
theorem dX8_sendsOf_20 : decode cX8_sendsOf 20 = .ok (.iadd, 1) := by decide +kernel
theorem dX8_sendsOf_21 : decode cX8_sendsOf 21 = .ok (.istore_n 2, 1) := by decide +kernel
theorem dX8_sendsOf_22 : decode cX8_sendsOf 22 = .ok (.iinc 3 1, 3) := by decide +kernel
theorem dX8_sendsOf_25 : decode cX8_sendsOf 25 = .ok (.goto (-21), 3) := by decide +kernel
theorem dX8_sendsOf_28 : decode cX8_sendsOf 28 = .ok (.iload_n 2, 1) := by decide +kernel
theorem dX8_sendsOf_29 : decode cX8_sendsOf 29 = .ok (.ireturn, 1) := by decide +kernel
theorem dX8_sends_0 : decode cX8_sends 0 = .ok (.aload_n 0, 1) := by decide +kernel
theorem dX8_sends_1 : decode cX8_sends 1 = .ok (.iload_n 1, 1) := by decide +kernel
theorem dX8_sends_2 : decode cX8_sends 2 = .ok (.invokevirtual 314, 3) := by decide +kernel
theorem dX8_sends_5 : decode cX8_sends 5 = .ok (.ifCond .eq 11, 3) := by decide +kernel
theorem dX8_sends_8 : decode cX8_sends 8 = .ok (.aload_n 0, 1) := by decide +kernel
theorem dX8_sends_9 : decode cX8_sends 9 = .ok (.iload_n 1, 1) := by decide +kernel
theorem dX8_sends_10 : decode cX8_sends 10 = .ok (.invokevirtual 317, 3) := by decide +kernel
theorem dX8_sends_13 : decode cX8_sends 13 = .ok (.goto 5, 3) := by decide +kernel
theorem dX8_sends_16 : decode cX8_sends 16 = .ok (.bipush (-2), 2) := by decide +kernel
theorem dX8_sends_18 : decode cX8_sends 18 = .ok (.ireturn, 1) := by decide +kernel
theorem dX8_used_0 : decode cX8_used 0 = .ok (.aload_n 0, 1) := by decide +kernel
theorem dX8_used_1 : decode cX8_used 1 = .ok (.iload_n 1, 1) := by decide +kernel
theorem dX8_used_2 : decode cX8_used 2 = .ok (.invokevirtual 314, 3) := by decide +kernel
theorem dX8_used_5 : decode cX8_used 5 = .ok (.ifCond .eq 7, 3) := by decide +kernel
theorem dX8_used_8 : decode cX8_used 8 = .ok (.iload_n 2, 1) := by decide +kernel
theorem dX8_used_9 : decode cX8_used 9 = .ok (.ifCond .ge 6, 3) := by decide +kernel
theorem dX8_used_12 : decode cX8_used 12 = .ok (.bipush (-2), 2) := by decide +kernel
theorem dX8_used_14 : decode cX8_used 14 = .ok (.ireturn, 1) := by decide +kernel
theorem dX8_used_15 : decode cX8_used 15 = .ok (.iload_n 2, 1) := by decide +kernel
theorem dX8_used_16 : decode cX8_used 16 = .ok (.aload_n 0, 1) := by decide +kernel
theorem dX8_used_17 : decode cX8_used 17 = .ok (.iload_n 1, 1) := by decide +kernel
theorem dX8_used_18 : decode cX8_used 18 = .ok (.invokevirtual 245, 3) := by decide +kernel
theorem dX8_used_21 : decode cX8_used 21 = .ok (.if_icmp .ge 16, 3) := by decide +kernel
theorem dX8_used_24 : decode cX8_used 24 = .ok (.aload_n 0, 1) := by decide +kernel
theorem dX8_used_25 : decode cX8_used 25 = .ok (.getfield 55, 3) := by decide +kernel
theorem dX8_used_28 : decode cX8_used 28 = .ok (.iconst 4, 1) := by decide +kernel
theorem dX8_used_29 : decode cX8_used 29 = .ok (.iload_n 1, 1) := by decide +kernel
theorem dX8_used_30 : decode cX8_used 30 = .ok (.imul, 1) := by decide +kernel
theorem dX8_used_31 : decode cX8_used 31 = .ok (.iload_n 2, 1) := by decide +kernel
theorem dX8_used_32 : decode cX8_used 32 = .ok (.iadd, 1) := by decide +kernel
theorem dX8_used_33 : decode cX8_used 33 = .ok (.iaload, 1) := by decide +kernel
theorem dX8_used_34 : decode cX8_used 34 = .ok (.goto 4, 3) := by decide +kernel
theorem dX8_used_37 : decode cX8_used 37 = .ok (.iconst (-1), 1) := by decide +kernel
theorem dX8_used_38 : decode cX8_used 38 = .ok (.ireturn, 1) := by decide +kernel
theorem dX8_walks_0 : decode cX8_walks 0 = .ok (.aload_n 0, 1) := by decide +kernel
theorem dX8_walks_1 : decode cX8_walks 1 = .ok (.iload_n 1, 1) := by decide +kernel
theorem dX8_walks_2 : decode cX8_walks 2 = .ok (.invokevirtual 320, 3) := by decide +kernel
theorem dX8_walks_5 : decode cX8_walks 5 = .ok (.ifCond .eq 12, 3) := by decide +kernel
theorem dX8_walks_8 : decode cX8_walks 8 = .ok (.aload_n 0, 1) := by decide +kernel
theorem dX8_walks_9 : decode cX8_walks 9 = .ok (.getfield 58, 3) := by decide +kernel
theorem dX8_walks_12 : decode cX8_walks 12 = .ok (.iload_n 1, 1) := by decide +kernel
theorem dX8_walks_13 : decode cX8_walks 13 = .ok (.iaload, 1) := by decide +kernel
theorem dX8_walks_14 : decode cX8_walks 14 = .ok (.goto 5, 3) := by decide +kernel
theorem dX8_walks_17 : decode cX8_walks 17 = .ok (.bipush (-2), 2) := by decide +kernel
theorem dX8_walks_19 : decode cX8_walks 19 = .ok (.ireturn, 1) := by decide +kernel
theorem dX8_homeOf_0 : decode cX8_homeOf 0 = .ok (.iconst 0, 1) := by decide +kernel
theorem dX8_homeOf_1 : decode cX8_homeOf 1 = .ok (.istore_n 2, 1) := by decide +kernel
theorem dX8_homeOf_2 : decode cX8_homeOf 2 = .ok (.iload_n 2, 1) := by decide +kernel
theorem dX8_homeOf_3 : decode cX8_homeOf 3 = .ok (.aload_n 0, 1) := by decide +kernel
theorem dX8_homeOf_4 : decode cX8_homeOf 4 = .ok (.invokevirtual 106, 3) := by decide +kernel
theorem dX8_homeOf_7 : decode cX8_homeOf 7 = .ok (.if_icmp .gt 20, 3) := by decide +kernel
theorem dX8_homeOf_10 : decode cX8_homeOf 10 = .ok (.aload_n 0, 1) := by decide +kernel
theorem dX8_homeOf_11 : decode cX8_homeOf 11 = .ok (.iload_n 1, 1) := by decide +kernel
theorem dX8_homeOf_12 : decode cX8_homeOf 12 = .ok (.iload_n 2, 1) := by decide +kernel
theorem dX8_homeOf_13 : decode cX8_homeOf 13 = .ok (.invokevirtual 323, 3) := by decide +kernel
theorem dX8_homeOf_16 : decode cX8_homeOf 16 = .ok (.ifCond .eq 5, 3) := by decide +kernel
theorem dX8_homeOf_19 : decode cX8_homeOf 19 = .ok (.iload_n 2, 1) := by decide +kernel
theorem dX8_homeOf_20 : decode cX8_homeOf 20 = .ok (.ireturn, 1) := by decide +kernel
theorem dX8_homeOf_21 : decode cX8_homeOf 21 = .ok (.iinc 2 1, 3) := by decide +kernel
theorem dX8_homeOf_24 : decode cX8_homeOf 24 = .ok (.goto (-22), 3) := by decide +kernel
theorem dX8_homeOf_27 : decode cX8_homeOf 27 = .ok (.iconst (-1), 1) := by decide +kernel
theorem dX8_homeOf_28 : decode cX8_homeOf 28 = .ok (.ireturn, 1) := by decide +kernel
theorem dX8_home_0 : decode cX8_home 0 = .ok (.aload_n 0, 1) := by decide +kernel
theorem dX8_home_1 : decode cX8_home 1 = .ok (.iload_n 1, 1) := by decide +kernel
theorem dX8_home_2 : decode cX8_home 2 = .ok (.invokevirtual 320, 3) := by decide +kernel
theorem dX8_home_5 : decode cX8_home 5 = .ok (.ifCond .eq 11, 3) := by decide +kernel
theorem dX8_home_8 : decode cX8_home 8 = .ok (.aload_n 0, 1) := by decide +kernel
theorem dX8_home_9 : decode cX8_home 9 = .ok (.iload_n 1, 1) := by decide +kernel
theorem dX8_home_10 : decode cX8_home 10 = .ok (.invokevirtual 326, 3) := by decide +kernel
theorem dX8_home_13 : decode cX8_home 13 = .ok (.goto 5, 3) := by decide +kernel
theorem dX8_home_16 : decode cX8_home 16 = .ok (.bipush (-2), 2) := by decide +kernel
theorem dX8_home_18 : decode cX8_home 18 = .ok (.ireturn, 1) := by decide +kernel
theorem dX8_inn_0 : decode cX8_inn 0 = .ok (.aload_n 0, 1) := by decide +kernel
theorem dX8_inn_1 : decode cX8_inn 1 = .ok (.iload_n 1, 1) := by decide +kernel
theorem dX8_inn_2 : decode cX8_inn 2 = .ok (.invokevirtual 320, 3) := by decide +kernel
theorem dX8_inn_5 : decode cX8_inn 5 = .ok (.ifCond .ne 6, 3) := by decide +kernel
theorem dX8_inn_8 : decode cX8_inn 8 = .ok (.bipush (-2), 2) := by decide +kernel
theorem dX8_inn_10 : decode cX8_inn 10 = .ok (.ireturn, 1) := by decide +kernel
theorem dX8_inn_11 : decode cX8_inn 11 = .ok (.aload_n 0, 1) := by decide +kernel
theorem dX8_inn_12 : decode cX8_inn 12 = .ok (.iload_n 1, 1) := by decide +kernel
theorem dX8_inn_13 : decode cX8_inn 13 = .ok (.aload_n 0, 1) := by decide +kernel
theorem dX8_inn_14 : decode cX8_inn 14 = .ok (.invokevirtual 106, 3) := by decide +kernel
theorem dX8_inn_17 : decode cX8_inn 17 = .ok (.invokevirtual 323, 3) := by decide +kernel
theorem dX8_inn_20 : decode cX8_inn 20 = .ok (.ifCond .eq 18, 3) := by decide +kernel
theorem dX8_inn_23 : decode cX8_inn 23 = .ok (.aload_n 0, 1) := by decide +kernel
theorem dX8_inn_24 : decode cX8_inn 24 = .ok (.iload_n 1, 1) := by decide +kernel
theorem dX8_inn_25 : decode cX8_inn 25 = .ok (.aload_n 0, 1) := by decide +kernel
theorem dX8_inn_26 : decode cX8_inn 26 = .ok (.invokevirtual 106, 3) := by decide +kernel
theorem dX8_inn_29 : decode cX8_inn 29 = .ok (.invokevirtual 298, 3) := by decide +kernel
theorem dX8_inn_32 : decode cX8_inn 32 = .ok (.bipush 10, 2) := by decide +kernel
theorem dX8_inn_34 : decode cX8_inn 34 = .ok (.isub, 1) := by decide +kernel
theorem dX8_inn_35 : decode cX8_inn 35 = .ok (.goto 4, 3) := by decide +kernel
theorem dX8_inn_38 : decode cX8_inn 38 = .ok (.iconst (-1), 1) := by decide +kernel
theorem dX8_inn_39 : decode cX8_inn 39 = .ok (.ireturn, 1) := by decide +kernel
theorem dX8_trailTo_0 : decode cX8_trailTo 0 = .ok (.iconst 0, 1) := by decide +kernel
theorem dX8_trailTo_1 : decode cX8_trailTo 1 = .ok (.istore_n 3, 1) := by decide +kernel
theorem dX8_trailTo_2 : decode cX8_trailTo 2 = .ok (.iconst 0, 1) := by decide +kernel
theorem dX8_trailTo_3 : decode cX8_trailTo 3 = .ok (.istore 4, 2) := by decide +kernel
theorem dX8_trailTo_5 : decode cX8_trailTo 5 = .ok (.iload 4, 2) := by decide +kernel
theorem dX8_trailTo_7 : decode cX8_trailTo 7 = .ok (.iload_n 2, 1) := by decide +kernel
theorem dX8_trailTo_8 : decode cX8_trailTo 8 = .ok (.if_icmp .gt 43, 3) := by decide +kernel
theorem dX8_trailTo_11 : decode cX8_trailTo 11 = .ok (.iload_n 3, 1) := by decide +kernel
theorem dX8_trailTo_12 : decode cX8_trailTo 12 = .ok (.aload_n 0, 1) := by decide +kernel
theorem dX8_trailTo_13 : decode cX8_trailTo 13 = .ok (.iload_n 1, 1) := by decide +kernel
theorem dX8_trailTo_14 : decode cX8_trailTo 14 = .ok (.iload 4, 2) := by decide +kernel
theorem dX8_trailTo_16 : decode cX8_trailTo 16 = .ok (.invokevirtual 298, 3) := by decide +kernel
theorem dX8_trailTo_19 : decode cX8_trailTo 19 = .ok (.i2l, 1) := by decide +kernel
theorem dX8_trailTo_20 : decode cX8_trailTo 20 = .ok (.lconst 0, 1) := by decide +kernel
theorem dX8_trailTo_21 : decode cX8_trailTo 21 = .ok (.ldc2_w 329, 3) := by decide +kernel
theorem dX8_trailTo_24 : decode cX8_trailTo 24 = .ok (.invokestatic 94, 3) := by decide +kernel
theorem dX8_trailTo_27 : decode cX8_trailTo 27 = .ok (.ifCond .eq 15, 3) := by decide +kernel
theorem dX8_trailTo_30 : decode cX8_trailTo 30 = .ok (.iconst 1, 1) := by decide +kernel
theorem dX8_trailTo_31 : decode cX8_trailTo 31 = .ok (.aload_n 0, 1) := by decide +kernel
theorem dX8_trailTo_32 : decode cX8_trailTo 32 = .ok (.iload_n 1, 1) := by decide +kernel
theorem dX8_trailTo_33 : decode cX8_trailTo 33 = .ok (.iload 4, 2) := by decide +kernel
theorem dX8_trailTo_35 : decode cX8_trailTo 35 = .ok (.invokevirtual 298, 3) := by decide +kernel
theorem dX8_trailTo_38 : decode cX8_trailTo 38 = .ok (.ishl, 1) := by decide +kernel
theorem dX8_trailTo_39 : decode cX8_trailTo 39 = .ok (.goto 4, 3) := by decide +kernel
theorem dX8_trailTo_42 : decode cX8_trailTo 42 = .ok (.iconst 0, 1) := by decide +kernel
theorem dX8_trailTo_43 : decode cX8_trailTo 43 = .ok (.ior, 1) := by decide +kernel
theorem dX8_trailTo_44 : decode cX8_trailTo 44 = .ok (.istore_n 3, 1) := by decide +kernel
theorem dX8_trailTo_45 : decode cX8_trailTo 45 = .ok (.iinc 4 1, 3) := by decide +kernel
theorem dX8_trailTo_48 : decode cX8_trailTo 48 = .ok (.goto (-43), 3) := by decide +kernel
theorem dX8_trailTo_51 : decode cX8_trailTo 51 = .ok (.iload_n 3, 1) := by decide +kernel
theorem dX8_trailTo_52 : decode cX8_trailTo 52 = .ok (.ireturn, 1) := by decide +kernel
theorem dX8_trail_0 : decode cX8_trail 0 = .ok (.aload_n 0, 1) := by decide +kernel
theorem dX8_trail_1 : decode cX8_trail 1 = .ok (.iload_n 1, 1) := by decide +kernel
theorem dX8_trail_2 : decode cX8_trail 2 = .ok (.invokevirtual 320, 3) := by decide +kernel
theorem dX8_trail_5 : decode cX8_trail 5 = .ok (.ifCond .eq 15, 3) := by decide +kernel
theorem dX8_trail_8 : decode cX8_trail 8 = .ok (.aload_n 0, 1) := by decide +kernel
theorem dX8_trail_9 : decode cX8_trail 9 = .ok (.iload_n 1, 1) := by decide +kernel
theorem dX8_trail_10 : decode cX8_trail 10 = .ok (.aload_n 0, 1) := by decide +kernel
theorem dX8_trail_11 : decode cX8_trail 11 = .ok (.invokevirtual 106, 3) := by decide +kernel
theorem dX8_trail_14 : decode cX8_trail 14 = .ok (.invokevirtual 331, 3) := by decide +kernel
theorem dX8_trail_17 : decode cX8_trail 17 = .ok (.goto 5, 3) := by decide +kernel
theorem dX8_trail_20 : decode cX8_trail 20 = .ok (.bipush (-2), 2) := by decide +kernel
theorem dX8_trail_22 : decode cX8_trail 22 = .ok (.ireturn, 1) := by decide +kernel
theorem dX8_again_0 : decode cX8_again 0 = .ok (.aload_n 0, 1) := by decide +kernel
theorem dX8_again_1 : decode cX8_again 1 = .ok (.iload_n 1, 1) := by decide +kernel
theorem dX8_again_2 : decode cX8_again 2 = .ok (.invokevirtual 320, 3) := by decide +kernel
theorem dX8_again_5 : decode cX8_again 5 = .ok (.ifCond .ne 6, 3) := by decide +kernel
theorem dX8_again_8 : decode cX8_again 8 = .ok (.bipush (-2), 2) := by decide +kernel
theorem dX8_again_10 : decode cX8_again 10 = .ok (.ireturn, 1) := by decide +kernel
theorem dX8_again_11 : decode cX8_again 11 = .ok (.iconst 0, 1) := by decide +kernel
theorem dX8_again_12 : decode cX8_again 12 = .ok (.istore_n 2, 1) := by decide +kernel
theorem dX8_again_13 : decode cX8_again 13 = .ok (.iconst 1, 1) := by decide +kernel
theorem dX8_again_14 : decode cX8_again 14 = .ok (.istore_n 3, 1) := by decide +kernel
theorem dX8_again_15 : decode cX8_again 15 = .ok (.iload_n 3, 1) := by decide +kernel
theorem dX8_again_16 : decode cX8_again 16 = .ok (.aload_n 0, 1) := by decide +kernel
theorem dX8_again_17 : decode cX8_again 17 = .ok (.invokevirtual 106, 3) := by decide +kernel
theorem dX8_again_20 : decode cX8_again 20 = .ok (.if_icmp .gt 68, 3) := by decide +kernel
theorem dX8_again_23 : decode cX8_again 23 = .ok (.aload_n 0, 1) := by decide +kernel
theorem dX8_again_24 : decode cX8_again 24 = .ok (.iload_n 1, 1) := by decide +kernel
theorem dX8_again_25 : decode cX8_again 25 = .ok (.iload_n 3, 1) := by decide +kernel
theorem dX8_again_26 : decode cX8_again 26 = .ok (.invokevirtual 298, 3) := by decide +kernel
theorem dX8_again_29 : decode cX8_again 29 = .ok (.istore 4, 2) := by decide +kernel
theorem dX8_again_31 : decode cX8_again 31 = .ok (.iload_n 2, 1) := by decide +kernel
theorem dX8_again_32 : decode cX8_again 32 = .ok (.iload 4, 2) := by decide +kernel
theorem dX8_again_34 : decode cX8_again 34 = .ok (.i2l, 1) := by decide +kernel
theorem dX8_again_35 : decode cX8_again 35 = .ok (.lconst 0, 1) := by decide +kernel
theorem dX8_again_36 : decode cX8_again 36 = .ok (.ldc2_w 329, 3) := by decide +kernel
theorem dX8_again_39 : decode cX8_again 39 = .ok (.invokestatic 94, 3) := by decide +kernel
theorem dX8_again_42 : decode cX8_again 42 = .ok (.ifCond .eq 37, 3) := by decide +kernel
theorem dX8_again_45 : decode cX8_again 45 = .ok (.aload_n 0, 1) := by decide +kernel
theorem dX8_again_46 : decode cX8_again 46 = .ok (.iload_n 1, 1) := by decide +kernel
theorem dX8_again_47 : decode cX8_again 47 = .ok (.iload_n 3, 1) := by decide +kernel
theorem dX8_again_48 : decode cX8_again 48 = .ok (.iconst 1, 1) := by decide +kernel
theorem dX8_again_49 : decode cX8_again 49 = .ok (.isub, 1) := by decide +kernel
theorem dX8_again_50 : decode cX8_again 50 = .ok (.invokevirtual 298, 3) := by decide +kernel
theorem dX8_again_53 : decode cX8_again 53 = .ok (.iload 4, 2) := by decide +kernel
theorem dX8_again_55 : decode cX8_again 55 = .ok (.if_icmp .eq 24, 3) := by decide +kernel
theorem dX8_again_58 : decode cX8_again 58 = .ok (.aload_n 0, 1) := by decide +kernel
theorem dX8_again_59 : decode cX8_again 59 = .ok (.iload_n 1, 1) := by decide +kernel
theorem dX8_again_60 : decode cX8_again 60 = .ok (.iload_n 3, 1) := by decide +kernel
theorem dX8_again_61 : decode cX8_again 61 = .ok (.iconst 1, 1) := by decide +kernel
theorem dX8_again_62 : decode cX8_again 62 = .ok (.isub, 1) := by decide +kernel
theorem dX8_again_63 : decode cX8_again 63 = .ok (.invokevirtual 331, 3) := by decide +kernel
theorem dX8_again_66 : decode cX8_again 66 = .ok (.iload 4, 2) := by decide +kernel
theorem dX8_again_68 : decode cX8_again 68 = .ok (.invokestatic 266, 3) := by decide +kernel
theorem dX8_again_71 : decode cX8_again 71 = .ok (.iconst 1, 1) := by decide +kernel
theorem dX8_again_72 : decode cX8_again 72 = .ok (.if_icmp .ne 7, 3) := by decide +kernel
theorem dX8_again_75 : decode cX8_again 75 = .ok (.iconst 1, 1) := by decide +kernel
theorem dX8_again_76 : decode cX8_again 76 = .ok (.goto 4, 3) := by decide +kernel
theorem dX8_again_79 : decode cX8_again 79 = .ok (.iconst 0, 1) := by decide +kernel
theorem dX8_again_80 : decode cX8_again 80 = .ok (.iadd, 1) := by decide +kernel
theorem dX8_again_81 : decode cX8_again 81 = .ok (.istore_n 2, 1) := by decide +kernel
theorem dX8_again_82 : decode cX8_again 82 = .ok (.iinc 3 1, 3) := by decide +kernel
theorem dX8_again_85 : decode cX8_again 85 = .ok (.goto (-70), 3) := by decide +kernel
theorem dX8_again_88 : decode cX8_again 88 = .ok (.iload_n 2, 1) := by decide +kernel
theorem dX8_again_89 : decode cX8_again 89 = .ok (.ireturn, 1) := by decide +kernel
theorem dX8_lingers_0 : decode cX8_lingers 0 = .ok (.aload_n 0, 1) := by decide +kernel
theorem dX8_lingers_1 : decode cX8_lingers 1 = .ok (.iload_n 1, 1) := by decide +kernel
theorem dX8_lingers_2 : decode cX8_lingers 2 = .ok (.invokevirtual 320, 3) := by decide +kernel
theorem dX8_lingers_5 : decode cX8_lingers 5 = .ok (.ifCond .ne 6, 3) := by decide +kernel
theorem dX8_lingers_8 : decode cX8_lingers 8 = .ok (.bipush (-2), 2) := by decide +kernel
theorem dX8_lingers_10 : decode cX8_lingers 10 = .ok (.ireturn, 1) := by decide +kernel
theorem dX8_lingers_11 : decode cX8_lingers 11 = .ok (.iconst 0, 1) := by decide +kernel
theorem dX8_lingers_12 : decode cX8_lingers 12 = .ok (.istore_n 2, 1) := by decide +kernel
theorem dX8_lingers_13 : decode cX8_lingers 13 = .ok (.iconst 1, 1) := by decide +kernel
theorem dX8_lingers_14 : decode cX8_lingers 14 = .ok (.istore_n 3, 1) := by decide +kernel
theorem dX8_lingers_15 : decode cX8_lingers 15 = .ok (.iload_n 3, 1) := by decide +kernel
theorem dX8_lingers_16 : decode cX8_lingers 16 = .ok (.aload_n 0, 1) := by decide +kernel
theorem dX8_lingers_17 : decode cX8_lingers 17 = .ok (.invokevirtual 106, 3) := by decide +kernel
theorem dX8_lingers_20 : decode cX8_lingers 20 = .ok (.if_icmp .gt 51, 3) := by decide +kernel
theorem dX8_lingers_23 : decode cX8_lingers 23 = .ok (.iload_n 2, 1) := by decide +kernel
theorem dX8_lingers_24 : decode cX8_lingers 24 = .ok (.aload_n 0, 1) := by decide +kernel
theorem dX8_lingers_25 : decode cX8_lingers 25 = .ok (.iload_n 1, 1) := by decide +kernel
theorem dX8_lingers_26 : decode cX8_lingers 26 = .ok (.iload_n 3, 1) := by decide +kernel
theorem dX8_lingers_27 : decode cX8_lingers 27 = .ok (.invokevirtual 298, 3) := by decide +kernel
theorem dX8_lingers_30 : decode cX8_lingers 30 = .ok (.i2l, 1) := by decide +kernel
theorem dX8_lingers_31 : decode cX8_lingers 31 = .ok (.lconst 0, 1) := by decide +kernel
theorem dX8_lingers_32 : decode cX8_lingers 32 = .ok (.ldc2_w 329, 3) := by decide +kernel
theorem dX8_lingers_35 : decode cX8_lingers 35 = .ok (.invokestatic 94, 3) := by decide +kernel
theorem dX8_lingers_38 : decode cX8_lingers 38 = .ok (.ifCond .eq 24, 3) := by decide +kernel
theorem dX8_lingers_41 : decode cX8_lingers 41 = .ok (.aload_n 0, 1) := by decide +kernel
theorem dX8_lingers_42 : decode cX8_lingers 42 = .ok (.iload_n 1, 1) := by decide +kernel
theorem dX8_lingers_43 : decode cX8_lingers 43 = .ok (.iload_n 3, 1) := by decide +kernel
theorem dX8_lingers_44 : decode cX8_lingers 44 = .ok (.iconst 1, 1) := by decide +kernel
theorem dX8_lingers_45 : decode cX8_lingers 45 = .ok (.isub, 1) := by decide +kernel
theorem dX8_lingers_46 : decode cX8_lingers 46 = .ok (.invokevirtual 298, 3) := by decide +kernel
theorem dX8_lingers_49 : decode cX8_lingers 49 = .ok (.aload_n 0, 1) := by decide +kernel
theorem dX8_lingers_50 : decode cX8_lingers 50 = .ok (.iload_n 1, 1) := by decide +kernel
theorem dX8_lingers_51 : decode cX8_lingers 51 = .ok (.iload_n 3, 1) := by decide +kernel
theorem dX8_lingers_52 : decode cX8_lingers 52 = .ok (.invokevirtual 298, 3) := by decide +kernel
theorem dX8_lingers_55 : decode cX8_lingers 55 = .ok (.if_icmp .ne 7, 3) := by decide +kernel
theorem dX8_lingers_58 : decode cX8_lingers 58 = .ok (.iconst 1, 1) := by decide +kernel
theorem dX8_lingers_59 : decode cX8_lingers 59 = .ok (.goto 4, 3) := by decide +kernel
theorem dX8_lingers_62 : decode cX8_lingers 62 = .ok (.iconst 0, 1) := by decide +kernel
theorem dX8_lingers_63 : decode cX8_lingers 63 = .ok (.iadd, 1) := by decide +kernel
theorem dX8_lingers_64 : decode cX8_lingers 64 = .ok (.istore_n 2, 1) := by decide +kernel
theorem dX8_lingers_65 : decode cX8_lingers 65 = .ok (.iinc 3 1, 3) := by decide +kernel
theorem dX8_lingers_68 : decode cX8_lingers 68 = .ok (.goto (-53), 3) := by decide +kernel
theorem dX8_lingers_71 : decode cX8_lingers 71 = .ok (.iload_n 2, 1) := by decide +kernel
theorem dX8_lingers_72 : decode cX8_lingers 72 = .ok (.ireturn, 1) := by decide +kernel
theorem dX8_guestsOf_0 : decode cX8_guestsOf 0 = .ok (.aload_n 0, 1) := by decide +kernel
theorem dX8_guestsOf_1 : decode cX8_guestsOf 1 = .ok (.bipush 10, 2) := by decide +kernel
theorem dX8_guestsOf_3 : decode cX8_guestsOf 3 = .ok (.iload_n 1, 1) := by decide +kernel
theorem dX8_guestsOf_4 : decode cX8_guestsOf 4 = .ok (.iadd, 1) := by decide +kernel
theorem dX8_guestsOf_5 : decode cX8_guestsOf 5 = .ok (.iload_n 2, 1) := by decide +kernel
theorem dX8_guestsOf_6 : decode cX8_guestsOf 6 = .ok (.invokevirtual 308, 3) := by decide +kernel
theorem dX8_guestsOf_9 : decode cX8_guestsOf 9 = .ok (.invokestatic 334, 3) := by decide +kernel
theorem dX8_guestsOf_12 : decode cX8_guestsOf 12 = .ok (.ireturn, 1) := by decide +kernel
theorem dX8_guests_0 : decode cX8_guests 0 = .ok (.aload_n 0, 1) := by decide +kernel
theorem dX8_guests_1 : decode cX8_guests 1 = .ok (.iload_n 2, 1) := by decide +kernel
theorem dX8_guests_2 : decode cX8_guests 2 = .ok (.invokevirtual 301, 3) := by decide +kernel
theorem dX8_guests_5 : decode cX8_guests 5 = .ok (.ifCond .eq 21, 3) := by decide +kernel
theorem dX8_guests_8 : decode cX8_guests 8 = .ok (.aload_n 0, 1) := by decide +kernel
theorem dX8_guests_9 : decode cX8_guests 9 = .ok (.iload_n 1, 1) := by decide +kernel
theorem dX8_guests_10 : decode cX8_guests 10 = .ok (.i2l, 1) := by decide +kernel
theorem dX8_guests_11 : decode cX8_guests 11 = .ok (.invokevirtual 118, 3) := by decide +kernel
theorem dX8_guests_14 : decode cX8_guests 14 = .ok (.ifCond .eq 12, 3) := by decide +kernel
theorem dX8_guests_17 : decode cX8_guests 17 = .ok (.aload_n 0, 1) := by decide +kernel
theorem dX8_guests_18 : decode cX8_guests 18 = .ok (.iload_n 1, 1) := by decide +kernel
theorem dX8_guests_19 : decode cX8_guests 19 = .ok (.iload_n 2, 1) := by decide +kernel
theorem dX8_guests_20 : decode cX8_guests 20 = .ok (.invokevirtual 337, 3) := by decide +kernel
theorem dX8_guests_23 : decode cX8_guests 23 = .ok (.goto 5, 3) := by decide +kernel
theorem dX8_guests_26 : decode cX8_guests 26 = .ok (.bipush (-2), 2) := by decide +kernel
theorem dX8_guests_28 : decode cX8_guests 28 = .ok (.ireturn, 1) := by decide +kernel
theorem dX8_full_0 : decode cX8_full 0 = .ok (.aload_n 0, 1) := by decide +kernel
theorem dX8_full_1 : decode cX8_full 1 = .ok (.invokevirtual 292, 3) := by decide +kernel
theorem dX8_full_4 : decode cX8_full 4 = .ok (.pop, 1) := by decide +kernel
theorem dX8_full_5 : decode cX8_full 5 = .ok (.aload_n 0, 1) := by decide +kernel
theorem dX8_full_6 : decode cX8_full 6 = .ok (.iload_n 1, 1) := by decide +kernel
theorem dX8_full_7 : decode cX8_full 7 = .ok (.i2l, 1) := by decide +kernel
theorem dX8_full_8 : decode cX8_full 8 = .ok (.invokevirtual 118, 3) := by decide +kernel
theorem dX8_full_11 : decode cX8_full 11 = .ok (.ifCond .ne 6, 3) := by decide +kernel
theorem dX8_full_14 : decode cX8_full 14 = .ok (.bipush (-2), 2) := by decide +kernel
theorem dX8_full_16 : decode cX8_full 16 = .ok (.ireturn, 1) := by decide +kernel
theorem dX8_full_17 : decode cX8_full 17 = .ok (.iconst 0, 1) := by decide +kernel
theorem dX8_full_18 : decode cX8_full 18 = .ok (.istore_n 2, 1) := by decide +kernel
theorem dX8_full_19 : decode cX8_full 19 = .ok (.iload_n 2, 1) := by decide +kernel
theorem dX8_full_20 : decode cX8_full 20 = .ok (.aload_n 0, 1) := by decide +kernel
theorem dX8_full_21 : decode cX8_full 21 = .ok (.invokevirtual 106, 3) := by decide +kernel
theorem dX8_full_24 : decode cX8_full 24 = .ok (.if_icmp .gt 29, 3) := by decide +kernel
theorem dX8_full_27 : decode cX8_full 27 = .ok (.aload_n 0, 1) := by decide +kernel
theorem dX8_full_28 : decode cX8_full 28 = .ok (.iload_n 1, 1) := by decide +kernel
theorem dX8_full_29 : decode cX8_full 29 = .ok (.iload_n 2, 1) := by decide +kernel
theorem dX8_full_30 : decode cX8_full 30 = .ok (.invokevirtual 337, 3) := by decide +kernel
theorem dX8_full_33 : decode cX8_full 33 = .ok (.aload_n 0, 1) := by decide +kernel
theorem dX8_full_34 : decode cX8_full 34 = .ok (.getfield 9, 3) := by decide +kernel
theorem dX8_full_37 : decode cX8_full 37 = .ok (.bipush 10, 2) := by decide +kernel
theorem dX8_full_39 : decode cX8_full 39 = .ok (.iload_n 1, 1) := by decide +kernel
theorem dX8_full_40 : decode cX8_full 40 = .ok (.iadd, 1) := by decide +kernel
theorem dX8_full_41 : decode cX8_full 41 = .ok (.iaload, 1) := by decide +kernel
theorem dX8_full_42 : decode cX8_full 42 = .ok (.if_icmp .ne 5, 3) := by decide +kernel
theorem dX8_full_45 : decode cX8_full 45 = .ok (.iload_n 2, 1) := by decide +kernel
theorem dX8_full_46 : decode cX8_full 46 = .ok (.ireturn, 1) := by decide +kernel
theorem dX8_full_47 : decode cX8_full 47 = .ok (.iinc 2 1, 3) := by decide +kernel
theorem dX8_full_50 : decode cX8_full 50 = .ok (.goto (-31), 3) := by decide +kernel
theorem dX8_full_53 : decode cX8_full 53 = .ok (.iconst (-1), 1) := by decide +kernel
theorem dX8_full_54 : decode cX8_full 54 = .ok (.ireturn, 1) := by decide +kernel
theorem dX8_refuses_0 : decode cX8_refuses 0 = .ok (.aload_n 0, 1) := by decide +kernel
theorem dX8_refuses_1 : decode cX8_refuses 1 = .ok (.invokevirtual 292, 3) := by decide +kernel
theorem dX8_refuses_4 : decode cX8_refuses 4 = .ok (.pop, 1) := by decide +kernel
theorem dX8_refuses_5 : decode cX8_refuses 5 = .ok (.aload_n 0, 1) := by decide +kernel
theorem dX8_refuses_6 : decode cX8_refuses 6 = .ok (.iload_n 1, 1) := by decide +kernel
theorem dX8_refuses_7 : decode cX8_refuses 7 = .ok (.i2l, 1) := by decide +kernel
theorem dX8_refuses_8 : decode cX8_refuses 8 = .ok (.invokevirtual 118, 3) := by decide +kernel
theorem dX8_refuses_11 : decode cX8_refuses 11 = .ok (.ifCond .eq 12, 3) := by decide +kernel
theorem dX8_refuses_14 : decode cX8_refuses 14 = .ok (.aload_n 0, 1) := by decide +kernel
theorem dX8_refuses_15 : decode cX8_refuses 15 = .ok (.getfield 64, 3) := by decide +kernel
theorem dX8_refuses_18 : decode cX8_refuses 18 = .ok (.iload_n 1, 1) := by decide +kernel
theorem dX8_refuses_19 : decode cX8_refuses 19 = .ok (.iaload, 1) := by decide +kernel
theorem dX8_refuses_20 : decode cX8_refuses 20 = .ok (.goto 5, 3) := by decide +kernel
theorem dX8_refuses_23 : decode cX8_refuses 23 = .ok (.bipush (-2), 2) := by decide +kernel
theorem dX8_refuses_25 : decode cX8_refuses 25 = .ok (.ireturn, 1) := by decide +kernel
theorem dX8_insideAt_0 : decode cX8_insideAt 0 = .ok (.iconst 0, 1) := by decide +kernel
theorem dX8_insideAt_1 : decode cX8_insideAt 1 = .ok (.istore_n 2, 1) := by decide +kernel
theorem dX8_insideAt_2 : decode cX8_insideAt 2 = .ok (.iconst 0, 1) := by decide +kernel
theorem dX8_insideAt_3 : decode cX8_insideAt 3 = .ok (.istore_n 3, 1) := by decide +kernel
theorem dX8_insideAt_4 : decode cX8_insideAt 4 = .ok (.iload_n 3, 1) := by decide +kernel
theorem dX8_insideAt_5 : decode cX8_insideAt 5 = .ok (.aload_n 0, 1) := by decide +kernel
theorem dX8_insideAt_6 : decode cX8_insideAt 6 = .ok (.invokevirtual 109, 3) := by decide +kernel
theorem dX8_insideAt_9 : decode cX8_insideAt 9 = .ok (.if_icmp .ge 28, 3) := by decide +kernel
theorem dX8_insideAt_12 : decode cX8_insideAt 12 = .ok (.iload_n 2, 1) := by decide +kernel
theorem dX8_insideAt_13 : decode cX8_insideAt 13 = .ok (.aload_n 0, 1) := by decide +kernel
theorem dX8_insideAt_14 : decode cX8_insideAt 14 = .ok (.iload_n 3, 1) := by decide +kernel
theorem dX8_insideAt_15 : decode cX8_insideAt 15 = .ok (.iload_n 1, 1) := by decide +kernel
theorem dX8_insideAt_16 : decode cX8_insideAt 16 = .ok (.invokevirtual 323, 3) := by decide +kernel
theorem dX8_insideAt_19 : decode cX8_insideAt 19 = .ok (.ifCond .eq 9, 3) := by decide +kernel
theorem dX8_insideAt_22 : decode cX8_insideAt 22 = .ok (.iconst 1, 1) := by decide +kernel
theorem dX8_insideAt_23 : decode cX8_insideAt 23 = .ok (.iload_n 3, 1) := by decide +kernel
theorem dX8_insideAt_24 : decode cX8_insideAt 24 = .ok (.ishl, 1) := by decide +kernel
theorem dX8_insideAt_25 : decode cX8_insideAt 25 = .ok (.goto 4, 3) := by decide +kernel
theorem dX8_insideAt_28 : decode cX8_insideAt 28 = .ok (.iconst 0, 1) := by decide +kernel
theorem dX8_insideAt_29 : decode cX8_insideAt 29 = .ok (.ior, 1) := by decide +kernel
theorem dX8_insideAt_30 : decode cX8_insideAt 30 = .ok (.istore_n 2, 1) := by decide +kernel
theorem dX8_insideAt_31 : decode cX8_insideAt 31 = .ok (.iinc 3 1, 3) := by decide +kernel
theorem dX8_insideAt_34 : decode cX8_insideAt 34 = .ok (.goto (-30), 3) := by decide +kernel
theorem dX8_insideAt_37 : decode cX8_insideAt 37 = .ok (.iload_n 2, 1) := by decide +kernel
theorem dX8_insideAt_38 : decode cX8_insideAt 38 = .ok (.ireturn, 1) := by decide +kernel
theorem dX8_insideLast_0 : decode cX8_insideLast 0 = .ok (.aload_n 0, 1) := by decide +kernel
theorem dX8_insideLast_1 : decode cX8_insideLast 1 = .ok (.aload_n 0, 1) := by decide +kernel
theorem dX8_insideLast_2 : decode cX8_insideLast 2 = .ok (.invokevirtual 106, 3) := by decide +kernel
theorem dX8_insideLast_5 : decode cX8_insideLast 5 = .ok (.invokevirtual 340, 3) := by decide +kernel
theorem dX8_insideLast_8 : decode cX8_insideLast 8 = .ok (.ireturn, 1) := by decide +kernel
theorem dX8_inside_0 : decode cX8_inside 0 = .ok (.aload_n 0, 1) := by decide +kernel
theorem dX8_inside_1 : decode cX8_inside 1 = .ok (.iload_n 1, 1) := by decide +kernel
theorem dX8_inside_2 : decode cX8_inside 2 = .ok (.invokevirtual 301, 3) := by decide +kernel
theorem dX8_inside_5 : decode cX8_inside 5 = .ok (.ifCond .eq 11, 3) := by decide +kernel
theorem dX8_inside_8 : decode cX8_inside 8 = .ok (.aload_n 0, 1) := by decide +kernel
theorem dX8_inside_9 : decode cX8_inside 9 = .ok (.iload_n 1, 1) := by decide +kernel
theorem dX8_inside_10 : decode cX8_inside 10 = .ok (.invokevirtual 340, 3) := by decide +kernel
theorem dX8_inside_13 : decode cX8_inside 13 = .ok (.goto 5, 3) := by decide +kernel
theorem dX8_inside_16 : decode cX8_inside 16 = .ok (.bipush (-2), 2) := by decide +kernel
theorem dX8_inside_18 : decode cX8_inside 18 = .ok (.ireturn, 1) := by decide +kernel
theorem dX8_outside_0 : decode cX8_outside 0 = .ok (.aload_n 0, 1) := by decide +kernel
theorem dX8_outside_1 : decode cX8_outside 1 = .ok (.iload_n 1, 1) := by decide +kernel
theorem dX8_outside_2 : decode cX8_outside 2 = .ok (.invokevirtual 301, 3) := by decide +kernel
theorem dX8_outside_5 : decode cX8_outside 5 = .ok (.ifCond .ne 6, 3) := by decide +kernel
theorem dX8_outside_8 : decode cX8_outside 8 = .ok (.bipush (-2), 2) := by decide +kernel
theorem dX8_outside_10 : decode cX8_outside 10 = .ok (.ireturn, 1) := by decide +kernel
theorem dX8_outside_11 : decode cX8_outside 11 = .ok (.iconst 0, 1) := by decide +kernel
theorem dX8_outside_12 : decode cX8_outside 12 = .ok (.istore_n 2, 1) := by decide +kernel
theorem dX8_outside_13 : decode cX8_outside 13 = .ok (.iconst 0, 1) := by decide +kernel
theorem dX8_outside_14 : decode cX8_outside 14 = .ok (.istore_n 3, 1) := by decide +kernel
theorem dX8_outside_15 : decode cX8_outside 15 = .ok (.iload_n 3, 1) := by decide +kernel
theorem dX8_outside_16 : decode cX8_outside 16 = .ok (.aload_n 0, 1) := by decide +kernel
theorem dX8_outside_17 : decode cX8_outside 17 = .ok (.invokevirtual 109, 3) := by decide +kernel
theorem dX8_outside_20 : decode cX8_outside 20 = .ok (.if_icmp .ge 36, 3) := by decide +kernel
theorem dX8_outside_23 : decode cX8_outside 23 = .ok (.iload_n 2, 1) := by decide +kernel
theorem dX8_outside_24 : decode cX8_outside 24 = .ok (.aload_n 0, 1) := by decide +kernel
theorem dX8_outside_25 : decode cX8_outside 25 = .ok (.iload_n 3, 1) := by decide +kernel
theorem dX8_outside_26 : decode cX8_outside 26 = .ok (.iload_n 1, 1) := by decide +kernel
theorem dX8_outside_27 : decode cX8_outside 27 = .ok (.invokevirtual 298, 3) := by decide +kernel
theorem dX8_outside_30 : decode cX8_outside 30 = .ok (.i2l, 1) := by decide +kernel
theorem dX8_outside_31 : decode cX8_outside 31 = .ok (.lconst 0, 1) := by decide +kernel
theorem dX8_outside_32 : decode cX8_outside 32 = .ok (.ldc2_w 329, 3) := by decide +kernel
theorem dX8_outside_35 : decode cX8_outside 35 = .ok (.invokestatic 94, 3) := by decide +kernel
theorem dX8_outside_38 : decode cX8_outside 38 = .ok (.ifCond .eq 9, 3) := by decide +kernel
theorem dX8_outside_41 : decode cX8_outside 41 = .ok (.iconst 1, 1) := by decide +kernel
theorem dX8_outside_42 : decode cX8_outside 42 = .ok (.iload_n 3, 1) := by decide +kernel
theorem dX8_outside_43 : decode cX8_outside 43 = .ok (.ishl, 1) := by decide +kernel
theorem dX8_outside_44 : decode cX8_outside 44 = .ok (.goto 4, 3) := by decide +kernel
theorem dX8_outside_47 : decode cX8_outside 47 = .ok (.iconst 0, 1) := by decide +kernel
theorem dX8_outside_48 : decode cX8_outside 48 = .ok (.ior, 1) := by decide +kernel
theorem dX8_outside_49 : decode cX8_outside 49 = .ok (.istore_n 2, 1) := by decide +kernel
theorem dX8_outside_50 : decode cX8_outside 50 = .ok (.iinc 3 1, 3) := by decide +kernel
theorem dX8_outside_53 : decode cX8_outside 53 = .ok (.goto (-38), 3) := by decide +kernel
theorem dX8_outside_56 : decode cX8_outside 56 = .ok (.iload_n 2, 1) := by decide +kernel
theorem dX8_outside_57 : decode cX8_outside 57 = .ok (.ireturn, 1) := by decide +kernel
theorem dX8_done_0 : decode cX8_done 0 = .ok (.aload_n 0, 1) := by decide +kernel
theorem dX8_done_1 : decode cX8_done 1 = .ok (.invokevirtual 292, 3) := by decide +kernel
theorem dX8_done_4 : decode cX8_done 4 = .ok (.ifCond .ne 6, 3) := by decide +kernel
theorem dX8_done_7 : decode cX8_done 7 = .ok (.bipush (-2), 2) := by decide +kernel
theorem dX8_done_9 : decode cX8_done 9 = .ok (.ireturn, 1) := by decide +kernel
theorem dX8_done_10 : decode cX8_done 10 = .ok (.iconst 0, 1) := by decide +kernel
theorem dX8_done_11 : decode cX8_done 11 = .ok (.istore_n 1, 1) := by decide +kernel
theorem dX8_done_12 : decode cX8_done 12 = .ok (.iload_n 1, 1) := by decide +kernel
theorem dX8_done_13 : decode cX8_done 13 = .ok (.aload_n 0, 1) := by decide +kernel
theorem dX8_done_14 : decode cX8_done 14 = .ok (.invokevirtual 106, 3) := by decide +kernel
theorem dX8_done_17 : decode cX8_done 17 = .ok (.if_icmp .gt 33, 3) := by decide +kernel
theorem dX8_done_20 : decode cX8_done 20 = .ok (.aload_n 0, 1) := by decide +kernel
theorem dX8_done_21 : decode cX8_done 21 = .ok (.invokevirtual 109, 3) := by decide +kernel
theorem dX8_done_24 : decode cX8_done 24 = .ok (.ifCond .le 26, 3) := by decide +kernel
theorem dX8_done_27 : decode cX8_done 27 = .ok (.aload_n 0, 1) := by decide +kernel
theorem dX8_done_28 : decode cX8_done 28 = .ok (.iload_n 1, 1) := by decide +kernel
theorem dX8_done_29 : decode cX8_done 29 = .ok (.invokevirtual 340, 3) := by decide +kernel
theorem dX8_done_32 : decode cX8_done 32 = .ok (.invokestatic 334, 3) := by decide +kernel
theorem dX8_done_35 : decode cX8_done 35 = .ok (.aload_n 0, 1) := by decide +kernel
theorem dX8_done_36 : decode cX8_done 36 = .ok (.invokevirtual 109, 3) := by decide +kernel
theorem dX8_done_39 : decode cX8_done 39 = .ok (.if_icmp .ne 5, 3) := by decide +kernel
theorem dX8_done_42 : decode cX8_done 42 = .ok (.iload_n 1, 1) := by decide +kernel
theorem dX8_done_43 : decode cX8_done 43 = .ok (.ireturn, 1) := by decide +kernel
theorem dX8_done_44 : decode cX8_done 44 = .ok (.iinc 1 1, 3) := by decide +kernel
theorem dX8_done_47 : decode cX8_done 47 = .ok (.goto (-35), 3) := by decide +kernel
theorem dX8_done_50 : decode cX8_done 50 = .ok (.iconst (-1), 1) := by decide +kernel
theorem dX8_done_51 : decode cX8_done 51 = .ok (.ireturn, 1) := by decide +kernel
theorem dX8_crowd_0 : decode cX8_crowd 0 = .ok (.aload_n 0, 1) := by decide +kernel
theorem dX8_crowd_1 : decode cX8_crowd 1 = .ok (.iload_n 1, 1) := by decide +kernel
theorem dX8_crowd_2 : decode cX8_crowd 2 = .ok (.invokevirtual 301, 3) := by decide +kernel
theorem dX8_crowd_5 : decode cX8_crowd 5 = .ok (.ifCond .ne 6, 3) := by decide +kernel
theorem dX8_crowd_8 : decode cX8_crowd 8 = .ok (.bipush (-2), 2) := by decide +kernel
theorem dX8_crowd_10 : decode cX8_crowd 10 = .ok (.ireturn, 1) := by decide +kernel
theorem dX8_crowd_11 : decode cX8_crowd 11 = .ok (.iconst 0, 1) := by decide +kernel
theorem dX8_crowd_12 : decode cX8_crowd 12 = .ok (.istore_n 2, 1) := by decide +kernel
theorem dX8_crowd_13 : decode cX8_crowd 13 = .ok (.iconst 0, 1) := by decide +kernel
theorem dX8_crowd_14 : decode cX8_crowd 14 = .ok (.istore_n 3, 1) := by decide +kernel
theorem dX8_crowd_15 : decode cX8_crowd 15 = .ok (.iload_n 3, 1) := by decide +kernel
theorem dX8_crowd_16 : decode cX8_crowd 16 = .ok (.aload_n 0, 1) := by decide +kernel
theorem dX8_crowd_17 : decode cX8_crowd 17 = .ok (.invokevirtual 98, 3) := by decide +kernel
theorem dX8_crowd_20 : decode cX8_crowd 20 = .ok (.if_icmp .ge 23, 3) := by decide +kernel
theorem dX8_crowd_23 : decode cX8_crowd 23 = .ok (.iload_n 2, 1) := by decide +kernel
theorem dX8_crowd_24 : decode cX8_crowd 24 = .ok (.aload_n 0, 1) := by decide +kernel
theorem dX8_crowd_25 : decode cX8_crowd 25 = .ok (.iload_n 3, 1) := by decide +kernel
theorem dX8_crowd_26 : decode cX8_crowd 26 = .ok (.iload_n 1, 1) := by decide +kernel
theorem dX8_crowd_27 : decode cX8_crowd 27 = .ok (.invokevirtual 308, 3) := by decide +kernel
theorem dX8_crowd_30 : decode cX8_crowd 30 = .ok (.invokestatic 334, 3) := by decide +kernel
theorem dX8_crowd_33 : decode cX8_crowd 33 = .ok (.invokestatic 343, 3) := by decide +kernel
theorem dX8_crowd_36 : decode cX8_crowd 36 = .ok (.istore_n 2, 1) := by decide +kernel
theorem dX8_crowd_37 : decode cX8_crowd 37 = .ok (.iinc 3 1, 3) := by decide +kernel
theorem dX8_crowd_40 : decode cX8_crowd 40 = .ok (.goto (-25), 3) := by decide +kernel
theorem dX8_crowd_43 : decode cX8_crowd 43 = .ok (.iload_n 2, 1) := by decide +kernel
theorem dX8_crowd_44 : decode cX8_crowd 44 = .ok (.ireturn, 1) := by decide +kernel
theorem wd724 : Cond.methodLink RX8 286 yX8_asItIs ∈ tblG := gw7 112 (by decide +kernel) (by decide +kernel)
theorem wd725 : Cond.instanceMethod yX8_asItIs ∈ tblG := gw7 114 (by decide +kernel) (by decide +kernel)
theorem wd726 : Cond.selects RX8 yX8_asItIs yX8_asItIs ∈ tblG := gw0 75 (by decide +kernel) (by decide +kernel)
theorem wd727 : Cond.code yX8_asItIs cX8_asItIs 2 none ∈ tblG := gw7 115 (by decide +kernel) (by decide +kernel)
theorem pl_X8_asItIs : Plain yX8_asItIs 0 := ⟨by decide, by decide, by decide +kernel⟩
theorem lk_X8_286 : LkV RX8 286 8 yX8_asItIs cX8_asItIs 2 none 0 := ⟨⟨TX8, 41, rfl⟩, wd724, wd725, wd726, wd649, wd727, pl_X8_asItIs⟩
theorem wd728 : Cond.methodLink RX8 289 yX8_goAll ∈ tblG := gw7 116 (by decide +kernel) (by decide +kernel)
theorem wd729 : Cond.instanceMethod yX8_goAll ∈ tblG := gw7 118 (by decide +kernel) (by decide +kernel)
theorem wd730 : Cond.selects RX8 yX8_goAll yX8_goAll ∈ tblG := gw0 76 (by decide +kernel) (by decide +kernel)
theorem wd731 : Cond.code yX8_goAll cX8_goAll 3 none ∈ tblG := gw7 119 (by decide +kernel) (by decide +kernel)
theorem pl_X8_goAll : Plain yX8_goAll 0 := ⟨by decide, by decide, by decide +kernel⟩
theorem lk_X8_289 : LkV RX8 289 8 yX8_goAll cX8_goAll 3 none 0 := ⟨⟨TX8, 41, rfl⟩, wd728, wd729, wd730, wd649, wd731, pl_X8_goAll⟩
theorem wd732 : Cond.methodLink RX8 292 yX8_asksHeath ∈ tblG := gw7 108 (by decide +kernel) (by decide +kernel)
theorem wd733 : Cond.instanceMethod yX8_asksHeath ∈ tblG := gw7 110 (by decide +kernel) (by decide +kernel)
theorem wd734 : Cond.selects RX8 yX8_asksHeath yX8_asksHeath ∈ tblG := gw0 74 (by decide +kernel) (by decide +kernel)
theorem wd735 : Cond.code yX8_asksHeath cX8_asksHeath 1 (some .boolean) ∈ tblG := gw7 111 (by decide +kernel) (by decide +kernel)
theorem pl_X8_asksHeath : Plain yX8_asksHeath 0 := ⟨by decide, by decide, by decide +kernel⟩
theorem lk_X8_292 : LkV RX8 292 8 yX8_asksHeath cX8_asksHeath 1 (some .boolean) 0 := ⟨⟨TX8, 41, rfl⟩, wd732, wd733, wd734, wd649, wd735, pl_X8_asksHeath⟩
theorem wd736 : Cond.methodLink RX8 295 yX8_isHour ∈ tblG := gw7 147 (by decide +kernel) (by decide +kernel)
theorem wd737 : Cond.instanceMethod yX8_isHour ∈ tblG := gw7 149 (by decide +kernel) (by decide +kernel)
theorem wd738 : Cond.selects RX8 yX8_isHour yX8_isHour ∈ tblG := gw0 83 (by decide +kernel) (by decide +kernel)
theorem wd739 : Cond.code yX8_isHour cX8_isHour 3 (some .boolean) ∈ tblG := gw7 150 (by decide +kernel) (by decide +kernel)
theorem pl_X8_isHour : Plain yX8_isHour 1 := ⟨by decide, by decide, by decide +kernel⟩
theorem lk_X8_295 : LkV RX8 295 8 yX8_isHour cX8_isHour 3 (some .boolean) 1 := ⟨⟨TX8, 41, rfl⟩, wd736, wd737, wd738, wd649, wd739, pl_X8_isHour⟩
theorem wd740 : Cond.methodLink RX8 254 yX8_isWalker ∈ tblG := gw7 80 (by decide +kernel) (by decide +kernel)
theorem wd741 : Cond.instanceMethod yX8_isWalker ∈ tblG := gw7 82 (by decide +kernel) (by decide +kernel)
theorem wd742 : Cond.selects RX8 yX8_isWalker yX8_isWalker ∈ tblG := gw0 70 (by decide +kernel) (by decide +kernel)
theorem wd743 : Cond.code yX8_isWalker cX8_isWalker 3 (some .boolean) ∈ tblG := gw7 83 (by decide +kernel) (by decide +kernel)
theorem pl_X8_isWalker : Plain yX8_isWalker 1 := ⟨by decide, by decide, by decide +kernel⟩
theorem lk_X8_254 : LkV RX8 254 8 yX8_isWalker cX8_isWalker 3 (some .boolean) 1 := ⟨⟨TX8, 41, rfl⟩, wd740, wd741, wd742, wd649, wd743, pl_X8_isWalker⟩
theorem wd744 : Cond.methodLink RX8 298 yX8_placeOf ∈ tblG := gw7 151 (by decide +kernel) (by decide +kernel)
theorem wd745 : Cond.instanceMethod yX8_placeOf ∈ tblG := gw7 153 (by decide +kernel) (by decide +kernel)
theorem wd746 : Cond.selects RX8 yX8_placeOf yX8_placeOf ∈ tblG := gw0 84 (by decide +kernel) (by decide +kernel)
theorem wd747 : Cond.code yX8_placeOf cX8_placeOf 3 (some .int) ∈ tblG := gw7 154 (by decide +kernel) (by decide +kernel)
theorem pl_X8_placeOf : Plain yX8_placeOf 2 := ⟨by decide, by decide, by decide +kernel⟩
theorem lk_X8_298 : LkV RX8 298 8 yX8_placeOf cX8_placeOf 3 (some .int) 2 := ⟨⟨TX8, 41, rfl⟩, wd744, wd745, wd746, wd649, wd747, pl_X8_placeOf⟩
theorem wd748 : Cond.methodLink RX8 301 yX8_asksHour ∈ tblG := gw7 104 (by decide +kernel) (by decide +kernel)
theorem wd749 : Cond.instanceMethod yX8_asksHour ∈ tblG := gw7 106 (by decide +kernel) (by decide +kernel)
theorem wd750 : Cond.selects RX8 yX8_asksHour yX8_asksHour ∈ tblG := gw0 73 (by decide +kernel) (by decide +kernel)
theorem wd751 : Cond.code yX8_asksHour cX8_asksHour 2 (some .boolean) ∈ tblG := gw7 107 (by decide +kernel) (by decide +kernel)
theorem pl_X8_asksHour : Plain yX8_asksHour 1 := ⟨by decide, by decide, by decide +kernel⟩
theorem lk_X8_301 : LkV RX8 301 8 yX8_asksHour cX8_asksHour 2 (some .boolean) 1 := ⟨⟨TX8, 41, rfl⟩, wd748, wd749, wd750, wd649, wd751, pl_X8_asksHour⟩
theorem wd752 : Cond.methodLink RX8 305 yX8_isPlace ∈ tblG := gw7 163 (by decide +kernel) (by decide +kernel)
theorem wd753 : Cond.instanceMethod yX8_isPlace ∈ tblG := gw7 165 (by decide +kernel) (by decide +kernel)
theorem wd754 : Cond.selects RX8 yX8_isPlace yX8_isPlace ∈ tblG := gw0 85 (by decide +kernel) (by decide +kernel)
theorem wd755 : Cond.code yX8_isPlace cX8_isPlace 3 (some .boolean) ∈ tblG := gw7 166 (by decide +kernel) (by decide +kernel)
theorem pl_X8_isPlace : Plain yX8_isPlace 1 := ⟨by decide, by decide, by decide +kernel⟩
theorem lk_X8_305 : LkV RX8 305 8 yX8_isPlace cX8_isPlace 3 (some .boolean) 1 := ⟨⟨TX8, 41, rfl⟩, wd752, wd753, wd754, wd649, wd755, pl_X8_isPlace⟩
theorem wd756 : Cond.methodLink RX8 308 yX8_hereOf ∈ tblG := gw7 168 (by decide +kernel) (by decide +kernel)
theorem wd757 : Cond.instanceMethod yX8_hereOf ∈ tblG := gw7 170 (by decide +kernel) (by decide +kernel)
theorem wd758 : Cond.selects RX8 yX8_hereOf yX8_hereOf ∈ tblG := gw0 86 (by decide +kernel) (by decide +kernel)
theorem wd759 : Cond.code yX8_hereOf cX8_hereOf 5 (some .int) ∈ tblG := gw7 171 (by decide +kernel) (by decide +kernel)
theorem pl_X8_hereOf : Plain yX8_hereOf 2 := ⟨by decide, by decide, by decide +kernel⟩
theorem lk_X8_308 : LkV RX8 308 8 yX8_hereOf cX8_hereOf 5 (some .int) 2 := ⟨⟨TX8, 41, rfl⟩, wd756, wd757, wd758, wd649, wd759, pl_X8_hereOf⟩
theorem wd760 : Cond.methodLink RX8 311 yX8_isAhead ∈ tblG := gw7 176 (by decide +kernel) (by decide +kernel)
theorem wd761 : Cond.instanceMethod yX8_isAhead ∈ tblG := gw7 178 (by decide +kernel) (by decide +kernel)
theorem wd762 : Cond.selects RX8 yX8_isAhead yX8_isAhead ∈ tblG := gw0 87 (by decide +kernel) (by decide +kernel)
theorem wd763 : Cond.code yX8_isAhead cX8_isAhead 3 (some .boolean) ∈ tblG := gw7 179 (by decide +kernel) (by decide +kernel)
theorem pl_X8_isAhead : Plain yX8_isAhead 1 := ⟨by decide, by decide, by decide +kernel⟩
theorem lk_X8_311 : LkV RX8 311 8 yX8_isAhead cX8_isAhead 3 (some .boolean) 1 := ⟨⟨TX8, 41, rfl⟩, wd760, wd761, wd762, wd649, wd763, pl_X8_isAhead⟩
theorem wd764 : Cond.methodLink RX8 314 yX8_asksPost ∈ tblG := gw7 184 (by decide +kernel) (by decide +kernel)
theorem wd765 : Cond.instanceMethod yX8_asksPost ∈ tblG := gw7 186 (by decide +kernel) (by decide +kernel)
theorem wd766 : Cond.selects RX8 yX8_asksPost yX8_asksPost ∈ tblG := gw0 88 (by decide +kernel) (by decide +kernel)
theorem wd767 : Cond.code yX8_asksPost cX8_asksPost 2 (some .boolean) ∈ tblG := gw7 187 (by decide +kernel) (by decide +kernel)
theorem pl_X8_asksPost : Plain yX8_asksPost 1 := ⟨by decide, by decide, by decide +kernel⟩
theorem lk_X8_314 : LkV RX8 314 8 yX8_asksPost cX8_asksPost 2 (some .boolean) 1 := ⟨⟨TX8, 41, rfl⟩, wd764, wd765, wd766, wd649, wd767, pl_X8_asksPost⟩
theorem wd768 : Cond.methodLink RX8 317 yX8_sendsOf ∈ tblG := gw7 188 (by decide +kernel) (by decide +kernel)
theorem wd769 : Cond.instanceMethod yX8_sendsOf ∈ tblG := gw7 190 (by decide +kernel) (by decide +kernel)
theorem wd770 : Cond.selects RX8 yX8_sendsOf yX8_sendsOf ∈ tblG := gw0 89 (by decide +kernel) (by decide +kernel)
theorem wd771 : Cond.code yX8_sendsOf cX8_sendsOf 4 (some .int) ∈ tblG := gw7 191 (by decide +kernel) (by decide +kernel)
theorem pl_X8_sendsOf : Plain yX8_sendsOf 1 := ⟨by decide, by decide, by decide +kernel⟩
theorem lk_X8_317 : LkV RX8 317 8 yX8_sendsOf cX8_sendsOf 4 (some .int) 1 := ⟨⟨TX8, 41, rfl⟩, wd768, wd769, wd770, wd649, wd771, pl_X8_sendsOf⟩
theorem wd772 : Cond.methodLink RX8 320 yX8_asksWalker ∈ tblG := gw7 200 (by decide +kernel) (by decide +kernel)
theorem wd773 : Cond.instanceMethod yX8_asksWalker ∈ tblG := gw7 202 (by decide +kernel) (by decide +kernel)
theorem wd774 : Cond.selects RX8 yX8_asksWalker yX8_asksWalker ∈ tblG := gw0 90 (by decide +kernel) (by decide +kernel)
theorem wd775 : Cond.code yX8_asksWalker cX8_asksWalker 2 (some .boolean) ∈ tblG := gw7 203 (by decide +kernel) (by decide +kernel)
theorem pl_X8_asksWalker : Plain yX8_asksWalker 1 := ⟨by decide, by decide, by decide +kernel⟩
theorem lk_X8_320 : LkV RX8 320 8 yX8_asksWalker cX8_asksWalker 2 (some .boolean) 1 := ⟨⟨TX8, 41, rfl⟩, wd772, wd773, wd774, wd649, wd775, pl_X8_asksWalker⟩
theorem wd776 : Cond.methodLink RX8 323 yX8_isInside ∈ tblG := gw7 212 (by decide +kernel) (by decide +kernel)
theorem wd777 : Cond.instanceMethod yX8_isInside ∈ tblG := gw7 214 (by decide +kernel) (by decide +kernel)
theorem wd778 : Cond.selects RX8 yX8_isInside yX8_isInside ∈ tblG := gw0 92 (by decide +kernel) (by decide +kernel)
theorem wd779 : Cond.code yX8_isInside cX8_isInside 3 (some .boolean) ∈ tblG := gw7 215 (by decide +kernel) (by decide +kernel)
theorem pl_X8_isInside : Plain yX8_isInside 2 := ⟨by decide, by decide, by decide +kernel⟩
theorem lk_X8_323 : LkV RX8 323 8 yX8_isInside cX8_isInside 3 (some .boolean) 2 := ⟨⟨TX8, 41, rfl⟩, wd776, wd777, wd778, wd649, wd779, pl_X8_isInside⟩
theorem wd780 : Cond.methodLink RX8 326 yX8_homeOf ∈ tblG := gw7 208 (by decide +kernel) (by decide +kernel)
theorem wd781 : Cond.instanceMethod yX8_homeOf ∈ tblG := gw7 210 (by decide +kernel) (by decide +kernel)
theorem wd782 : Cond.selects RX8 yX8_homeOf yX8_homeOf ∈ tblG := gw0 91 (by decide +kernel) (by decide +kernel)
theorem wd783 : Cond.code yX8_homeOf cX8_homeOf 3 (some .int) ∈ tblG := gw7 211 (by decide +kernel) (by decide +kernel)
theorem pl_X8_homeOf : Plain yX8_homeOf 1 := ⟨by decide, by decide, by decide +kernel⟩
theorem lk_X8_326 : LkV RX8 326 8 yX8_homeOf cX8_homeOf 3 (some .int) 1 := ⟨⟨TX8, 41, rfl⟩, wd780, wd781, wd782, wd649, wd783, pl_X8_homeOf⟩
theorem wd784 : Cond.constantLong RX8 329 (6) ∈ tblG := gw7 228 (by decide +kernel) (by decide +kernel)
theorem wd785 : Cond.methodLink RX8 331 yX8_trailTo ∈ tblG := gw7 224 (by decide +kernel) (by decide +kernel)
theorem wd786 : Cond.instanceMethod yX8_trailTo ∈ tblG := gw7 226 (by decide +kernel) (by decide +kernel)
theorem wd787 : Cond.selects RX8 yX8_trailTo yX8_trailTo ∈ tblG := gw0 93 (by decide +kernel) (by decide +kernel)
theorem wd788 : Cond.code yX8_trailTo cX8_trailTo 5 (some .int) ∈ tblG := gw7 227 (by decide +kernel) (by decide +kernel)
theorem pl_X8_trailTo : Plain yX8_trailTo 2 := ⟨by decide, by decide, by decide +kernel⟩
theorem lk_X8_331 : LkV RX8 331 8 yX8_trailTo cX8_trailTo 5 (some .int) 2 := ⟨⟨TX8, 41, rfl⟩, wd785, wd786, wd787, wd649, wd788, pl_X8_trailTo⟩
theorem wd789 : Cond.methodLink RX8 334 yX8_bits ∈ tblG := gw8 5 (by decide +kernel) (by decide +kernel)
theorem wd790 : Cond.static yX8_bits ∈ tblG := gw8 6 (by decide +kernel) (by decide +kernel)
theorem wd791 : Cond.code yX8_bits cX8_bits 3 (some .int) ∈ tblG := gw8 7 (by decide +kernel) (by decide +kernel)
theorem pl_X8_bits : Plain yX8_bits 1 := ⟨by decide, by decide, by decide +kernel⟩
theorem lk_X8_334 : LkS RX8 334 yX8_bits cX8_bits 3 (some .int) 1 := ⟨wd789, wd790, wd649, wd791, pl_X8_bits⟩
theorem wd792 : Cond.methodLink RX8 337 yX8_guestsOf ∈ tblG := gw8 1 (by decide +kernel) (by decide +kernel)
theorem wd793 : Cond.instanceMethod yX8_guestsOf ∈ tblG := gw8 3 (by decide +kernel) (by decide +kernel)
theorem wd794 : Cond.selects RX8 yX8_guestsOf yX8_guestsOf ∈ tblG := gw0 94 (by decide +kernel) (by decide +kernel)
theorem wd795 : Cond.code yX8_guestsOf cX8_guestsOf 3 (some .int) ∈ tblG := gw8 4 (by decide +kernel) (by decide +kernel)
theorem pl_X8_guestsOf : Plain yX8_guestsOf 2 := ⟨by decide, by decide, by decide +kernel⟩
theorem lk_X8_337 : LkV RX8 337 8 yX8_guestsOf cX8_guestsOf 3 (some .int) 2 := ⟨⟨TX8, 41, rfl⟩, wd792, wd793, wd794, wd649, wd795, pl_X8_guestsOf⟩
theorem wd796 : Cond.methodLink RX8 340 yX8_insideAt ∈ tblG := gw8 20 (by decide +kernel) (by decide +kernel)
theorem wd797 : Cond.instanceMethod yX8_insideAt ∈ tblG := gw8 22 (by decide +kernel) (by decide +kernel)
theorem wd798 : Cond.selects RX8 yX8_insideAt yX8_insideAt ∈ tblG := gw0 95 (by decide +kernel) (by decide +kernel)
theorem wd799 : Cond.code yX8_insideAt cX8_insideAt 4 (some .int) ∈ tblG := gw8 23 (by decide +kernel) (by decide +kernel)
theorem pl_X8_insideAt : Plain yX8_insideAt 1 := ⟨by decide, by decide, by decide +kernel⟩
theorem lk_X8_340 : LkV RX8 340 8 yX8_insideAt cX8_insideAt 4 (some .int) 1 := ⟨⟨TX8, 41, rfl⟩, wd796, wd797, wd798, wd649, wd799, pl_X8_insideAt⟩
theorem wd800 : Cond.methodLink RX8 343 yJ9_max_7cf53 ∈ tblG := gw8 36 (by decide +kernel) (by decide +kernel)
