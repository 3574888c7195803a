theorem dX2_isTold_0 : decode cX2_isTold 0 = .ok (.aload_n 0, 1) := by decide +kernel
theorem dX2_isTold_1 : decode cX2_isTold 1 = .ok (.getfield 9, 3) := by decide +kernel
theorem dX2_isTold_4 : decode cX2_isTold 4 = .ok (.ifCond .le 7, 3) := by decide +kernel
theorem dX2_isTold_7 : decode cX2_isTold 7 = .ok (.iconst 1, 1) := by decide +kernel
theorem dX2_isTold_8 : decode cX2_isTold 8 = .ok (.goto 4, 3) := by decide +kernel
theorem dX2_isTold_11 : decode cX2_isTold 11 = .ok (.iconst 0, 1) := by decide +kernel
theorem dX2_isTold_12 : decode cX2_isTold 12 = .ok (.ireturn, 1) := by decide +kernel
theorem dX2_hasInn_0 : decode cX2_hasInn 0 = .ok (.iload_n 1, 1) := by decide +kernel
theorem dX2_hasInn_1 : decode cX2_hasInn 1 = .ok (.ifCond .lt 15, 3) := by decide +kernel
theorem dX2_hasInn_4 : decode cX2_hasInn 4 = .ok (.iload_n 1, 1) := by decide +kernel
theorem dX2_hasInn_5 : decode cX2_hasInn 5 = .ok (.aload_n 0, 1) := by decide +kernel
theorem dX2_hasInn_6 : decode cX2_hasInn 6 = .ok (.getfield 24, 3) := by decide +kernel
theorem dX2_hasInn_9 : decode cX2_hasInn 9 = .ok (.if_icmp .ge 7, 3) := by decide +kernel
theorem dX2_hasInn_12 : decode cX2_hasInn 12 = .ok (.iconst 1, 1) := by decide +kernel
theorem dX2_hasInn_13 : decode cX2_hasInn 13 = .ok (.goto 4, 3) := by decide +kernel
theorem dX2_hasInn_16 : decode cX2_hasInn 16 = .ok (.iconst 0, 1) := by decide +kernel
theorem dX2_hasInn_17 : decode cX2_hasInn 17 = .ok (.ireturn, 1) := by decide +kernel
theorem dX2_hasPost_0 : decode cX2_hasPost 0 = .ok (.iload_n 1, 1) := by decide +kernel
theorem dX2_hasPost_1 : decode cX2_hasPost 1 = .ok (.ifCond .lt 15, 3) := by decide +kernel
theorem dX2_hasPost_4 : decode cX2_hasPost 4 = .ok (.iload_n 1, 1) := by decide +kernel
theorem dX2_hasPost_5 : decode cX2_hasPost 5 = .ok (.aload_n 0, 1) := by decide +kernel
theorem dX2_hasPost_6 : decode cX2_hasPost 6 = .ok (.getfield 27, 3) := by decide +kernel
theorem dX2_hasPost_9 : decode cX2_hasPost 9 = .ok (.if_icmp .ge 7, 3) := by decide +kernel
theorem dX2_hasPost_12 : decode cX2_hasPost 12 = .ok (.iconst 1, 1) := by decide +kernel
theorem dX2_hasPost_13 : decode cX2_hasPost 13 = .ok (.goto 4, 3) := by decide +kernel
theorem dX2_hasPost_16 : decode cX2_hasPost 16 = .ok (.iconst 0, 1) := by decide +kernel
theorem dX2_hasPost_17 : decode cX2_hasPost 17 = .ok (.ireturn, 1) := by decide +kernel
theorem dX2_hasWalker_0 : decode cX2_hasWalker 0 = .ok (.iload_n 1, 1) := by decide +kernel
theorem dX2_hasWalker_1 : decode cX2_hasWalker 1 = .ok (.ifCond .lt 15, 3) := by decide +kernel
theorem dX2_hasWalker_4 : decode cX2_hasWalker 4 = .ok (.iload_n 1, 1) := by decide +kernel
theorem dX2_hasWalker_5 : decode cX2_hasWalker 5 = .ok (.aload_n 0, 1) := by decide +kernel
theorem dX2_hasWalker_6 : decode cX2_hasWalker 6 = .ok (.getfield 36, 3) := by decide +kernel
theorem dX2_hasWalker_9 : decode cX2_hasWalker 9 = .ok (.if_icmp .ge 7, 3) := by decide +kernel
theorem dX2_hasWalker_12 : decode cX2_hasWalker 12 = .ok (.iconst 1, 1) := by decide +kernel
theorem dX2_hasWalker_13 : decode cX2_hasWalker 13 = .ok (.goto 4, 3) := by decide +kernel
theorem dX2_hasWalker_16 : decode cX2_hasWalker 16 = .ok (.iconst 0, 1) := by decide +kernel
theorem dX2_hasWalker_17 : decode cX2_hasWalker 17 = .ok (.ireturn, 1) := by decide +kernel
theorem dX2_hasHour_0 : decode cX2_hasHour 0 = .ok (.aload_n 0, 1) := by decide +kernel
theorem dX2_hasHour_1 : decode cX2_hasHour 1 = .ok (.invokevirtual 91, 3) := by decide +kernel
theorem dX2_hasHour_4 : decode cX2_hasHour 4 = .ok (.ifCond .eq 19, 3) := by decide +kernel
theorem dX2_hasHour_7 : decode cX2_hasHour 7 = .ok (.iload_n 1, 1) := by decide +kernel
theorem dX2_hasHour_8 : decode cX2_hasHour 8 = .ok (.ifCond .lt 15, 3) := by decide +kernel
theorem dX2_hasHour_11 : decode cX2_hasHour 11 = .ok (.iload_n 1, 1) := by decide +kernel
theorem dX2_hasHour_12 : decode cX2_hasHour 12 = .ok (.aload_n 0, 1) := by decide +kernel
theorem dX2_hasHour_13 : decode cX2_hasHour 13 = .ok (.getfield 15, 3) := by decide +kernel
theorem dX2_hasHour_16 : decode cX2_hasHour 16 = .ok (.if_icmp .gt 7, 3) := by decide +kernel
theorem dX2_hasHour_19 : decode cX2_hasHour 19 = .ok (.iconst 1, 1) := by decide +kernel
theorem dX2_hasHour_20 : decode cX2_hasHour 20 = .ok (.goto 4, 3) := by decide +kernel
theorem dX2_hasHour_23 : decode cX2_hasHour 23 = .ok (.iconst 0, 1) := by decide +kernel
theorem dX2_hasHour_24 : decode cX2_hasHour 24 = .ok (.ireturn, 1) := by decide +kernel
theorem dX2_hasHourAhead_0 : decode cX2_hasHourAhead 0 = .ok (.aload_n 0, 1) := by decide +kernel
theorem dX2_hasHourAhead_1 : decode cX2_hasHourAhead 1 = .ok (.iload_n 1, 1) := by decide +kernel
theorem dX2_hasHourAhead_2 : decode cX2_hasHourAhead 2 = .ok (.invokevirtual 95, 3) := by decide +kernel
theorem dX2_hasHourAhead_5 : decode cX2_hasHourAhead 5 = .ok (.ifCond .eq 15, 3) := by decide +kernel
theorem dX2_hasHourAhead_8 : decode cX2_hasHourAhead 8 = .ok (.iload_n 1, 1) := by decide +kernel
theorem dX2_hasHourAhead_9 : decode cX2_hasHourAhead 9 = .ok (.aload_n 0, 1) := by decide +kernel
theorem dX2_hasHourAhead_10 : decode cX2_hasHourAhead 10 = .ok (.getfield 15, 3) := by decide +kernel
theorem dX2_hasHourAhead_13 : decode cX2_hasHourAhead 13 = .ok (.if_icmp .ge 7, 3) := by decide +kernel
theorem dX2_hasHourAhead_16 : decode cX2_hasHourAhead 16 = .ok (.iconst 1, 1) := by decide +kernel
theorem dX2_hasHourAhead_17 : decode cX2_hasHourAhead 17 = .ok (.goto 4, 3) := by decide +kernel
theorem dX2_hasHourAhead_20 : decode cX2_hasHourAhead 20 = .ok (.iconst 0, 1) := by decide +kernel
theorem dX2_hasHourAhead_21 : decode cX2_hasHourAhead 21 = .ok (.ireturn, 1) := by decide +kernel
theorem dX2_hasArm_0 : decode cX2_hasArm 0 = .ok (.aload_n 0, 1) := by decide +kernel
theorem dX2_hasArm_1 : decode cX2_hasArm 1 = .ok (.getfield 43, 3) := by decide +kernel
theorem dX2_hasArm_4 : decode cX2_hasArm 4 = .ok (.iload_n 1, 1) := by decide +kernel
theorem dX2_hasArm_5 : decode cX2_hasArm 5 = .ok (.iaload, 1) := by decide +kernel
theorem dX2_hasArm_6 : decode cX2_hasArm 6 = .ok (.ifCond .le 7, 3) := by decide +kernel
theorem dX2_hasArm_9 : decode cX2_hasArm 9 = .ok (.iconst 1, 1) := by decide +kernel
theorem dX2_hasArm_10 : decode cX2_hasArm 10 = .ok (.goto 4, 3) := by decide +kernel
theorem dX2_hasArm_13 : decode cX2_hasArm 13 = .ok (.iconst 0, 1) := by decide +kernel
theorem dX2_hasArm_14 : decode cX2_hasArm 14 = .ok (.ireturn, 1) := by decide +kernel
theorem dX2_goal_0 : decode cX2_goal 0 = .ok (.aload_n 0, 1) := by decide +kernel
theorem dX2_goal_1 : decode cX2_goal 1 = .ok (.getfield 46, 3) := by decide +kernel
theorem dX2_goal_4 : decode cX2_goal 4 = .ok (.iload_n 1, 1) := by decide +kernel
theorem dX2_goal_5 : decode cX2_goal 5 = .ok (.iconst 4, 1) := by decide +kernel
theorem dX2_goal_6 : decode cX2_goal 6 = .ok (.imul, 1) := by decide +kernel
theorem dX2_goal_7 : decode cX2_goal 7 = .ok (.iload_n 2, 1) := by decide +kernel
theorem dX2_goal_8 : decode cX2_goal 8 = .ok (.iadd, 1) := by decide +kernel
theorem dX2_goal_9 : decode cX2_goal 9 = .ok (.iaload, 1) := by decide +kernel
theorem dX2_goal_10 : decode cX2_goal 10 = .ok (.ireturn, 1) := by decide +kernel
theorem dX2_nextRoad_0 : decode cX2_nextRoad 0 = .ok (.iload_n 2, 1) := by decide +kernel
theorem dX2_nextRoad_1 : decode cX2_nextRoad 1 = .ok (.iconst 1, 1) := by decide +kernel
theorem dX2_nextRoad_2 : decode cX2_nextRoad 2 = .ok (.iadd, 1) := by decide +kernel
theorem dX2_nextRoad_3 : decode cX2_nextRoad 3 = .ok (.aload_n 0, 1) := by decide +kernel
theorem dX2_nextRoad_4 : decode cX2_nextRoad 4 = .ok (.getfield 43, 3) := by decide +kernel
theorem dX2_nextRoad_7 : decode cX2_nextRoad 7 = .ok (.iload_n 1, 1) := by decide +kernel
theorem dX2_nextRoad_8 : decode cX2_nextRoad 8 = .ok (.iaload, 1) := by decide +kernel
theorem dX2_nextRoad_9 : decode cX2_nextRoad 9 = .ok (.if_icmp .ge 9, 3) := by decide +kernel
theorem dX2_nextRoad_12 : decode cX2_nextRoad 12 = .ok (.iload_n 2, 1) := by decide +kernel
theorem dX2_nextRoad_13 : decode cX2_nextRoad 13 = .ok (.iconst 1, 1) := by decide +kernel
theorem dX2_nextRoad_14 : decode cX2_nextRoad 14 = .ok (.iadd, 1) := by decide +kernel
theorem dX2_nextRoad_15 : decode cX2_nextRoad 15 = .ok (.goto 4, 3) := by decide +kernel
theorem dX2_nextRoad_18 : decode cX2_nextRoad 18 = .ok (.iconst 0, 1) := by decide +kernel
theorem dX2_nextRoad_19 : decode cX2_nextRoad 19 = .ok (.ireturn, 1) := by decide +kernel
theorem dX2_sendBy_0 : decode cX2_sendBy 0 = .ok (.aload_n 1, 1) := by decide +kernel
theorem dX2_sendBy_1 : decode cX2_sendBy 1 = .ok (.iload_n 2, 1) := by decide +kernel
theorem dX2_sendBy_2 : decode cX2_sendBy 2 = .ok (.iload_n 3, 1) := by decide +kernel
theorem dX2_sendBy_3 : decode cX2_sendBy 3 = .ok (.iadd, 1) := by decide +kernel
theorem dX2_sendBy_4 : decode cX2_sendBy 4 = .ok (.iaload, 1) := by decide +kernel
theorem dX2_sendBy_5 : decode cX2_sendBy 5 = .ok (.istore 5, 2) := by decide +kernel
theorem dX2_sendBy_7 : decode cX2_sendBy 7 = .ok (.iload 5, 2) := by decide +kernel
theorem dX2_sendBy_9 : decode cX2_sendBy 9 = .ok (.iconst 1, 1) := by decide +kernel
theorem dX2_sendBy_10 : decode cX2_sendBy 10 = .ok (.iadd, 1) := by decide +kernel
theorem dX2_sendBy_11 : decode cX2_sendBy 11 = .ok (.aload_n 0, 1) := by decide +kernel
theorem dX2_sendBy_12 : decode cX2_sendBy 12 = .ok (.getfield 43, 3) := by decide +kernel
theorem dX2_sendBy_15 : decode cX2_sendBy 15 = .ok (.iload_n 3, 1) := by decide +kernel
theorem dX2_sendBy_16 : decode cX2_sendBy 16 = .ok (.iaload, 1) := by decide +kernel
theorem dX2_sendBy_17 : decode cX2_sendBy 17 = .ok (.if_icmp .ge 10, 3) := by decide +kernel
theorem dX2_sendBy_20 : decode cX2_sendBy 20 = .ok (.iload 5, 2) := by decide +kernel
theorem dX2_sendBy_22 : decode cX2_sendBy 22 = .ok (.iconst 1, 1) := by decide +kernel
theorem dX2_sendBy_23 : decode cX2_sendBy 23 = .ok (.iadd, 1) := by decide +kernel
theorem dX2_sendBy_24 : decode cX2_sendBy 24 = .ok (.goto 4, 3) := by decide +kernel
theorem dX2_sendBy_27 : decode cX2_sendBy 27 = .ok (.iconst 0, 1) := by decide +kernel
theorem dX2_sendBy_28 : decode cX2_sendBy 28 = .ok (.istore 6, 2) := by decide +kernel
theorem dX2_sendBy_30 : decode cX2_sendBy 30 = .ok (.iload 4, 2) := by decide +kernel
theorem dX2_sendBy_32 : decode cX2_sendBy 32 = .ok (.tableswitch 106 0 3 #[32, 42, 52, 80], 32) := by decide +kernel
theorem dX2_sendBy_64 : decode cX2_sendBy 64 = .ok (.aload_n 1, 1) := by decide +kernel
theorem dX2_sendBy_65 : decode cX2_sendBy 65 = .ok (.iload_n 2, 1) := by decide +kernel
theorem dX2_sendBy_66 : decode cX2_sendBy 66 = .ok (.iload_n 3, 1) := by decide +kernel
theorem dX2_sendBy_67 : decode cX2_sendBy 67 = .ok (.iadd, 1) := by decide +kernel
theorem dX2_sendBy_68 : decode cX2_sendBy 68 = .ok (.iload 6, 2) := by decide +kernel
theorem dX2_sendBy_70 : decode cX2_sendBy 70 = .ok (.iastore, 1) := by decide +kernel
theorem dX2_sendBy_71 : decode cX2_sendBy 71 = .ok (.iload 5, 2) := by decide +kernel
theorem dX2_sendBy_73 : decode cX2_sendBy 73 = .ok (.ireturn, 1) := by decide +kernel
theorem dX2_sendBy_74 : decode cX2_sendBy 74 = .ok (.aload_n 1, 1) := by decide +kernel
theorem dX2_sendBy_75 : decode cX2_sendBy 75 = .ok (.iload_n 2, 1) := by decide +kernel
theorem dX2_sendBy_76 : decode cX2_sendBy 76 = .ok (.iload_n 3, 1) := by decide +kernel
theorem dX2_sendBy_77 : decode cX2_sendBy 77 = .ok (.iadd, 1) := by decide +kernel
theorem dX2_sendBy_78 : decode cX2_sendBy 78 = .ok (.iload 6, 2) := by decide +kernel
theorem dX2_sendBy_80 : decode cX2_sendBy 80 = .ok (.iastore, 1) := by decide +kernel
theorem dX2_sendBy_81 : decode cX2_sendBy 81 = .ok (.iload 6, 2) := by decide +kernel
theorem dX2_sendBy_83 : decode cX2_sendBy 83 = .ok (.ireturn, 1) := by decide +kernel
theorem dX2_sendBy_84 : decode cX2_sendBy 84 = .ok (.aload_n 1, 1) := by decide +kernel
theorem dX2_sendBy_85 : decode cX2_sendBy 85 = .ok (.iload_n 2, 1) := by decide +kernel
theorem dX2_sendBy_86 : decode cX2_sendBy 86 = .ok (.iload_n 3, 1) := by decide +kernel
theorem dX2_sendBy_87 : decode cX2_sendBy 87 = .ok (.iadd, 1) := by decide +kernel
theorem dX2_sendBy_88 : decode cX2_sendBy 88 = .ok (.iload 5, 2) := by decide +kernel
theorem dX2_sendBy_90 : decode cX2_sendBy 90 = .ok (.ifCond .le 10, 3) := by decide +kernel
theorem dX2_sendBy_93 : decode cX2_sendBy 93 = .ok (.iload 5, 2) := by decide +kernel
theorem dX2_sendBy_95 : decode cX2_sendBy 95 = .ok (.iconst 1, 1) := by decide +kernel
theorem dX2_sendBy_96 : decode cX2_sendBy 96 = .ok (.isub, 1) := by decide +kernel
theorem dX2_sendBy_97 : decode cX2_sendBy 97 = .ok (.goto 11, 3) := by decide +kernel
theorem dX2_sendBy_100 : decode cX2_sendBy 100 = .ok (.aload_n 0, 1) := by decide +kernel
theorem dX2_sendBy_101 : decode cX2_sendBy 101 = .ok (.getfield 43, 3) := by decide +kernel
theorem dX2_sendBy_104 : decode cX2_sendBy 104 = .ok (.iload_n 3, 1) := by decide +kernel
theorem dX2_sendBy_105 : decode cX2_sendBy 105 = .ok (.iaload, 1) := by decide +kernel
theorem dX2_sendBy_106 : decode cX2_sendBy 106 = .ok (.iconst 1, 1) := by decide +kernel
theorem dX2_sendBy_107 : decode cX2_sendBy 107 = .ok (.isub, 1) := by decide +kernel
theorem dX2_sendBy_108 : decode cX2_sendBy 108 = .ok (.iastore, 1) := by decide +kernel
theorem dX2_sendBy_109 : decode cX2_sendBy 109 = .ok (.iload 5, 2) := by decide +kernel
theorem dX2_sendBy_111 : decode cX2_sendBy 111 = .ok (.ireturn, 1) := by decide +kernel
theorem dX2_sendBy_112 : decode cX2_sendBy 112 = .ok (.aload_n 0, 1) := by decide +kernel
theorem dX2_sendBy_113 : decode cX2_sendBy 113 = .ok (.getfield 46, 3) := by decide +kernel
theorem dX2_sendBy_116 : decode cX2_sendBy 116 = .ok (.iload_n 3, 1) := by decide +kernel
theorem dX2_sendBy_117 : decode cX2_sendBy 117 = .ok (.iconst 4, 1) := by decide +kernel
theorem dX2_sendBy_118 : decode cX2_sendBy 118 = .ok (.imul, 1) := by decide +kernel
theorem dX2_sendBy_119 : decode cX2_sendBy 119 = .ok (.iload 5, 2) := by decide +kernel
theorem dX2_sendBy_121 : decode cX2_sendBy 121 = .ok (.iadd, 1) := by decide +kernel
theorem dX2_sendBy_122 : decode cX2_sendBy 122 = .ok (.iaload, 1) := by decide +kernel
theorem dX2_sendBy_123 : decode cX2_sendBy 123 = .ok (.bipush 10, 2) := by decide +kernel
theorem dX2_sendBy_125 : decode cX2_sendBy 125 = .ok (.if_icmp .ge 10, 3) := by decide +kernel
theorem dX2_sendBy_128 : decode cX2_sendBy 128 = .ok (.aload_n 1, 1) := by decide +kernel
theorem dX2_sendBy_129 : decode cX2_sendBy 129 = .ok (.iload_n 2, 1) := by decide +kernel
theorem dX2_sendBy_130 : decode cX2_sendBy 130 = .ok (.iload_n 3, 1) := by decide +kernel
theorem dX2_sendBy_131 : decode cX2_sendBy 131 = .ok (.iadd, 1) := by decide +kernel
theorem dX2_sendBy_132 : decode cX2_sendBy 132 = .ok (.iload 6, 2) := by decide +kernel
theorem dX2_sendBy_134 : decode cX2_sendBy 134 = .ok (.iastore, 1) := by decide +kernel
theorem dX2_sendBy_135 : decode cX2_sendBy 135 = .ok (.iload 5, 2) := by decide +kernel
theorem dX2_sendBy_137 : decode cX2_sendBy 137 = .ok (.ireturn, 1) := by decide +kernel
theorem dX2_sendBy_138 : decode cX2_sendBy 138 = .ok (.iload 5, 2) := by decide +kernel
theorem dX2_sendBy_140 : decode cX2_sendBy 140 = .ok (.ireturn, 1) := by decide +kernel
theorem dX2_innsBeside_0 : decode cX2_innsBeside 0 = .ok (.iconst 0, 1) := by decide +kernel
theorem dX2_innsBeside_1 : decode cX2_innsBeside 1 = .ok (.istore_n 2, 1) := by decide +kernel
theorem dX2_innsBeside_2 : decode cX2_innsBeside 2 = .ok (.iconst 0, 1) := by decide +kernel
theorem dX2_innsBeside_3 : decode cX2_innsBeside 3 = .ok (.istore_n 3, 1) := by decide +kernel
theorem dX2_innsBeside_4 : decode cX2_innsBeside 4 = .ok (.iload_n 3, 1) := by decide +kernel
theorem dX2_innsBeside_5 : decode cX2_innsBeside 5 = .ok (.aload_n 0, 1) := by decide +kernel
theorem dX2_innsBeside_6 : decode cX2_innsBeside 6 = .ok (.getfield 43, 3) := by decide +kernel
theorem dX2_innsBeside_9 : decode cX2_innsBeside 9 = .ok (.iload_n 1, 1) := by decide +kernel
theorem dX2_innsBeside_10 : decode cX2_innsBeside 10 = .ok (.iaload, 1) := by decide +kernel
theorem dX2_innsBeside_11 : decode cX2_innsBeside 11 = .ok (.if_icmp .ge 34, 3) := by decide +kernel
theorem dX2_innsBeside_14 : decode cX2_innsBeside 14 = .ok (.aload_n 0, 1) := by decide +kernel
theorem dX2_innsBeside_15 : decode cX2_innsBeside 15 = .ok (.iload_n 1, 1) := by decide +kernel
theorem dX2_innsBeside_16 : decode cX2_innsBeside 16 = .ok (.iload_n 3, 1) := by decide +kernel
theorem dX2_innsBeside_17 : decode cX2_innsBeside 17 = .ok (.invokevirtual 98, 3) := by decide +kernel
theorem dX2_innsBeside_20 : decode cX2_innsBeside 20 = .ok (.bipush 10, 2) := by decide +kernel
theorem dX2_innsBeside_22 : decode cX2_innsBeside 22 = .ok (.if_icmp .lt 17, 3) := by decide +kernel
theorem dX2_innsBeside_25 : decode cX2_innsBeside 25 = .ok (.iload_n 2, 1) := by decide +kernel
theorem dX2_innsBeside_26 : decode cX2_innsBeside 26 = .ok (.iconst 1, 1) := by decide +kernel
theorem dX2_innsBeside_27 : decode cX2_innsBeside 27 = .ok (.aload_n 0, 1) := by decide +kernel
theorem dX2_innsBeside_28 : decode cX2_innsBeside 28 = .ok (.iload_n 1, 1) := by decide +kernel
theorem dX2_innsBeside_29 : decode cX2_innsBeside 29 = .ok (.iload_n 3, 1) := by decide +kernel
theorem dX2_innsBeside_30 : decode cX2_innsBeside 30 = .ok (.invokevirtual 98, 3) := by decide +kernel
theorem dX2_innsBeside_33 : decode cX2_innsBeside 33 = .ok (.bipush 10, 2) := by decide +kernel
theorem dX2_innsBeside_35 : decode cX2_innsBeside 35 = .ok (.isub, 1) := by decide +kernel
theorem dX2_innsBeside_36 : decode cX2_innsBeside 36 = .ok (.ishl, 1) := by decide +kernel
theorem dX2_innsBeside_37 : decode cX2_innsBeside 37 = .ok (.ior, 1) := by decide +kernel
theorem dX2_innsBeside_38 : decode cX2_innsBeside 38 = .ok (.istore_n 2, 1) := by decide +kernel
theorem dX2_innsBeside_39 : decode cX2_innsBeside 39 = .ok (.iinc 3 1, 3) := by decide +kernel
theorem dX2_innsBeside_42 : decode cX2_innsBeside 42 = .ok (.goto (-38), 3) := by decide +kernel
theorem dX2_innsBeside_45 : decode cX2_innsBeside 45 = .ok (.iload_n 2, 1) := by decide +kernel
theorem dX2_innsBeside_46 : decode cX2_innsBeside 46 = .ok (.ireturn, 1) := by decide +kernel
theorem dX2_postsWithoutRoads_0 : decode cX2_postsWithoutRoads 0 = .ok (.iconst 0, 1) := by decide +kernel
theorem dX2_postsWithoutRoads_1 : decode cX2_postsWithoutRoads 1 = .ok (.istore_n 1, 1) := by decide +kernel
theorem dX2_postsWithoutRoads_2 : decode cX2_postsWithoutRoads 2 = .ok (.iconst 0, 1) := by decide +kernel
theorem dX2_postsWithoutRoads_3 : decode cX2_postsWithoutRoads 3 = .ok (.istore_n 2, 1) := by decide +kernel
theorem dX2_postsWithoutRoads_4 : decode cX2_postsWithoutRoads 4 = .ok (.iload_n 2, 1) := by decide +kernel
theorem dX2_postsWithoutRoads_5 : decode cX2_postsWithoutRoads 5 = .ok (.aload_n 0, 1) := by decide +kernel
theorem dX2_postsWithoutRoads_6 : decode cX2_postsWithoutRoads 6 = .ok (.getfield 27, 3) := by decide +kernel
theorem dX2_postsWithoutRoads_9 : decode cX2_postsWithoutRoads 9 = .ok (.if_icmp .ge 23, 3) := by decide +kernel
theorem dX2_postsWithoutRoads_12 : decode cX2_postsWithoutRoads 12 = .ok (.aload_n 0, 1) := by decide +kernel
theorem dX2_postsWithoutRoads_13 : decode cX2_postsWithoutRoads 13 = .ok (.iload_n 2, 1) := by decide +kernel
theorem dX2_postsWithoutRoads_14 : decode cX2_postsWithoutRoads 14 = .ok (.invokevirtual 102, 3) := by decide +kernel
theorem dX2_postsWithoutRoads_17 : decode cX2_postsWithoutRoads 17 = .ok (.ifCond .ne 9, 3) := by decide +kernel
theorem dX2_postsWithoutRoads_20 : decode cX2_postsWithoutRoads 20 = .ok (.iload_n 1, 1) := by decide +kernel
theorem dX2_postsWithoutRoads_21 : decode cX2_postsWithoutRoads 21 = .ok (.iconst 1, 1) := by decide +kernel
theorem dX2_postsWithoutRoads_22 : decode cX2_postsWithoutRoads 22 = .ok (.iload_n 2, 1) := by decide +kernel
theorem dX2_postsWithoutRoads_23 : decode cX2_postsWithoutRoads 23 = .ok (.ishl, 1) := by decide +kernel
theorem dX2_postsWithoutRoads_24 : decode cX2_postsWithoutRoads 24 = .ok (.ior, 1) := by decide +kernel
theorem dX2_postsWithoutRoads_25 : decode cX2_postsWithoutRoads 25 = .ok (.istore_n 1, 1) := by decide +kernel
theorem dX2_postsWithoutRoads_26 : decode cX2_postsWithoutRoads 26 = .ok (.iinc 2 1, 3) := by decide +kernel
theorem dX2_postsWithoutRoads_29 : decode cX2_postsWithoutRoads 29 = .ok (.goto (-25), 3) := by decide +kernel
theorem dX2_postsWithoutRoads_32 : decode cX2_postsWithoutRoads 32 = .ok (.iload_n 1, 1) := by decide +kernel
theorem dX2_postsWithoutRoads_33 : decode cX2_postsWithoutRoads 33 = .ok (.ireturn, 1) := by decide +kernel
theorem dX2_placesFrom_0 : decode cX2_placesFrom 0 = .ok (.iconst 1, 1) := by decide +kernel
theorem dX2_placesFrom_1 : decode cX2_placesFrom 1 = .ok (.iload_n 1, 1) := by decide +kernel
theorem dX2_placesFrom_2 : decode cX2_placesFrom 2 = .ok (.ishl, 1) := by decide +kernel
theorem dX2_placesFrom_3 : decode cX2_placesFrom 3 = .ok (.istore_n 2, 1) := by decide +kernel
theorem dX2_placesFrom_4 : decode cX2_placesFrom 4 = .ok (.iconst 0, 1) := by decide +kernel
theorem dX2_placesFrom_5 : decode cX2_placesFrom 5 = .ok (.istore_n 3, 1) := by decide +kernel
theorem dX2_placesFrom_6 : decode cX2_placesFrom 6 = .ok (.iload_n 3, 1) := by decide +kernel
theorem dX2_placesFrom_7 : decode cX2_placesFrom 7 = .ok (.bipush 7, 2) := by decide +kernel
theorem dX2_placesFrom_9 : decode cX2_placesFrom 9 = .ok (.if_icmp .ge 15, 3) := by decide +kernel
theorem dX2_placesFrom_12 : decode cX2_placesFrom 12 = .ok (.aload_n 0, 1) := by decide +kernel
theorem dX2_placesFrom_13 : decode cX2_placesFrom 13 = .ok (.iload_n 2, 1) := by decide +kernel
theorem dX2_placesFrom_14 : decode cX2_placesFrom 14 = .ok (.invokevirtual 105, 3) := by decide +kernel
theorem dX2_placesFrom_17 : decode cX2_placesFrom 17 = .ok (.istore_n 2, 1) := by decide +kernel
theorem dX2_placesFrom_18 : decode cX2_placesFrom 18 = .ok (.iinc 3 1, 3) := by decide +kernel
theorem dX2_placesFrom_21 : decode cX2_placesFrom 21 = .ok (.goto (-15), 3) := by decide +kernel
theorem dX2_placesFrom_24 : decode cX2_placesFrom 24 = .ok (.iload_n 2, 1) := by decide +kernel
theorem dX2_placesFrom_25 : decode cX2_placesFrom 25 = .ok (.ireturn, 1) := by decide +kernel
theorem dX2_distance_0 : decode cX2_distance 0 = .ok (.iconst 1, 1) := by decide +kernel
theorem dX2_distance_1 : decode cX2_distance 1 = .ok (.iload_n 1, 1) := by decide +kernel
theorem dX2_distance_2 : decode cX2_distance 2 = .ok (.ishl, 1) := by decide +kernel
theorem dX2_distance_3 : decode cX2_distance 3 = .ok (.istore_n 3, 1) := by decide +kernel
theorem dX2_distance_4 : decode cX2_distance 4 = .ok (.iconst 0, 1) := by decide +kernel
theorem dX2_distance_5 : decode cX2_distance 5 = .ok (.istore 4, 2) := by decide +kernel
theorem dX2_distance_7 : decode cX2_distance 7 = .ok (.iload 4, 2) := by decide +kernel
theorem dX2_distance_9 : decode cX2_distance 9 = .ok (.bipush 7, 2) := by decide +kernel
theorem dX2_distance_11 : decode cX2_distance 11 = .ok (.if_icmp .gt 26, 3) := by decide +kernel
theorem dX2_distance_14 : decode cX2_distance 14 = .ok (.iload_n 3, 1) := by decide +kernel
theorem dX2_distance_15 : decode cX2_distance 15 = .ok (.iload_n 2, 1) := by decide +kernel
theorem dX2_distance_16 : decode cX2_distance 16 = .ok (.ishr, 1) := by decide +kernel
theorem dX2_distance_17 : decode cX2_distance 17 = .ok (.iconst 1, 1) := by decide +kernel
theorem dX2_distance_18 : decode cX2_distance 18 = .ok (.iand, 1) := by decide +kernel
theorem dX2_distance_19 : decode cX2_distance 19 = .ok (.ifCond .eq 6, 3) := by decide +kernel
theorem dX2_distance_22 : decode cX2_distance 22 = .ok (.iload 4, 2) := by decide +kernel
theorem dX2_distance_24 : decode cX2_distance 24 = .ok (.ireturn, 1) := by decide +kernel
theorem dX2_distance_25 : decode cX2_distance 25 = .ok (.aload_n 0, 1) := by decide +kernel
theorem dX2_distance_26 : decode cX2_distance 26 = .ok (.iload_n 3, 1) := by decide +kernel
theorem dX2_distance_27 : decode cX2_distance 27 = .ok (.invokevirtual 105, 3) := by decide +kernel
theorem dX2_distance_30 : decode cX2_distance 30 = .ok (.istore_n 3, 1) := by decide +kernel
theorem dX2_distance_31 : decode cX2_distance 31 = .ok (.iinc 4 1, 3) := by decide +kernel
theorem dX2_distance_34 : decode cX2_distance 34 = .ok (.goto (-27), 3) := by decide +kernel
theorem dX2_distance_37 : decode cX2_distance 37 = .ok (.iconst (-1), 1) := by decide +kernel
theorem dX2_distance_38 : decode cX2_distance 38 = .ok (.ireturn, 1) := by decide +kernel
theorem dX2_oneRoadOn_0 : decode cX2_oneRoadOn 0 = .ok (.iload_n 1, 1) := by decide +kernel
theorem dX2_oneRoadOn_1 : decode cX2_oneRoadOn 1 = .ok (.istore_n 2, 1) := by decide +kernel
theorem dX2_oneRoadOn_2 : decode cX2_oneRoadOn 2 = .ok (.iconst 0, 1) := by decide +kernel
theorem dX2_oneRoadOn_3 : decode cX2_oneRoadOn 3 = .ok (.istore_n 3, 1) := by decide +kernel
theorem dX2_oneRoadOn_4 : decode cX2_oneRoadOn 4 = .ok (.iload_n 3, 1) := by decide +kernel
theorem dX2_oneRoadOn_5 : decode cX2_oneRoadOn 5 = .ok (.aload_n 0, 1) := by decide +kernel
theorem dX2_oneRoadOn_6 : decode cX2_oneRoadOn 6 = .ok (.getfield 27, 3) := by decide +kernel
theorem dX2_oneRoadOn_9 : decode cX2_oneRoadOn 9 = .ok (.if_icmp .ge 49, 3) := by decide +kernel
theorem dX2_oneRoadOn_12 : decode cX2_oneRoadOn 12 = .ok (.iconst 0, 1) := by decide +kernel
theorem dX2_oneRoadOn_13 : decode cX2_oneRoadOn 13 = .ok (.istore 4, 2) := by decide +kernel
theorem dX2_oneRoadOn_15 : decode cX2_oneRoadOn 15 = .ok (.iload 4, 2) := by decide +kernel
theorem dX2_oneRoadOn_17 : decode cX2_oneRoadOn 17 = .ok (.aload_n 0, 1) := by decide +kernel
theorem dX2_oneRoadOn_18 : decode cX2_oneRoadOn 18 = .ok (.getfield 43, 3) := by decide +kernel
theorem dX2_oneRoadOn_21 : decode cX2_oneRoadOn 21 = .ok (.iload_n 3, 1) := by decide +kernel
theorem dX2_oneRoadOn_22 : decode cX2_oneRoadOn 22 = .ok (.iaload, 1) := by decide +kernel
theorem dX2_oneRoadOn_23 : decode cX2_oneRoadOn 23 = .ok (.if_icmp .ge 29, 3) := by decide +kernel
theorem dX2_oneRoadOn_26 : decode cX2_oneRoadOn 26 = .ok (.iload_n 1, 1) := by decide +kernel
theorem dX2_oneRoadOn_27 : decode cX2_oneRoadOn 27 = .ok (.iload_n 3, 1) := by decide +kernel
theorem dX2_oneRoadOn_28 : decode cX2_oneRoadOn 28 = .ok (.ishr, 1) := by decide +kernel
theorem dX2_oneRoadOn_29 : decode cX2_oneRoadOn 29 = .ok (.iconst 1, 1) := by decide +kernel
theorem dX2_oneRoadOn_30 : decode cX2_oneRoadOn 30 = .ok (.iand, 1) := by decide +kernel
theorem dX2_oneRoadOn_31 : decode cX2_oneRoadOn 31 = .ok (.ifCond .eq 21, 3) := by decide +kernel
theorem dX2_oneRoadOn_34 : decode cX2_oneRoadOn 34 = .ok (.iload_n 2, 1) := by decide +kernel
theorem dX2_oneRoadOn_35 : decode cX2_oneRoadOn 35 = .ok (.iconst 1, 1) := by decide +kernel
theorem dX2_oneRoadOn_36 : decode cX2_oneRoadOn 36 = .ok (.aload_n 0, 1) := by decide +kernel
theorem dX2_oneRoadOn_37 : decode cX2_oneRoadOn 37 = .ok (.iload_n 3, 1) := by decide +kernel
theorem dX2_oneRoadOn_38 : decode cX2_oneRoadOn 38 = .ok (.iload 4, 2) := by decide +kernel
theorem dX2_oneRoadOn_40 : decode cX2_oneRoadOn 40 = .ok (.invokevirtual 98, 3) := by decide +kernel
theorem dX2_oneRoadOn_43 : decode cX2_oneRoadOn 43 = .ok (.ishl, 1) := by decide +kernel
theorem dX2_oneRoadOn_44 : decode cX2_oneRoadOn 44 = .ok (.ior, 1) := by decide +kernel
theorem dX2_oneRoadOn_45 : decode cX2_oneRoadOn 45 = .ok (.istore_n 2, 1) := by decide +kernel
theorem dX2_oneRoadOn_46 : decode cX2_oneRoadOn 46 = .ok (.iinc 4 1, 3) := by decide +kernel
theorem dX2_oneRoadOn_49 : decode cX2_oneRoadOn 49 = .ok (.goto (-34), 3) := by decide +kernel
theorem dX2_oneRoadOn_52 : decode cX2_oneRoadOn 52 = .ok (.iinc 3 1, 3) := by decide +kernel
theorem dX2_oneRoadOn_55 : decode cX2_oneRoadOn 55 = .ok (.goto (-51), 3) := by decide +kernel
theorem dX2_oneRoadOn_58 : decode cX2_oneRoadOn 58 = .ok (.iload_n 2, 1) := by decide +kernel
theorem dX2_oneRoadOn_59 : decode cX2_oneRoadOn 59 = .ok (.ireturn, 1) := by decide +kernel
theorem dX2_settingNumber_0 : decode cX2_settingNumber 0 = .ok (.iconst 0, 1) := by decide +kernel
theorem dX2_settingNumber_1 : decode cX2_settingNumber 1 = .ok (.istore_n 3, 1) := by decide +kernel
theorem dX2_settingNumber_2 : decode cX2_settingNumber 2 = .ok (.iconst 1, 1) := by decide +kernel
theorem dX2_settingNumber_3 : decode cX2_settingNumber 3 = .ok (.istore 4, 2) := by decide +kernel
theorem dX2_settingNumber_5 : decode cX2_settingNumber 5 = .ok (.iconst 0, 1) := by decide +kernel
theorem dX2_settingNumber_6 : decode cX2_settingNumber 6 = .ok (.istore 5, 2) := by decide +kernel
theorem dX2_settingNumber_8 : decode cX2_settingNumber 8 = .ok (.iload 5, 2) := by decide +kernel
theorem dX2_settingNumber_10 : decode cX2_settingNumber 10 = .ok (.aload_n 0, 1) := by decide +kernel
theorem dX2_settingNumber_11 : decode cX2_settingNumber 11 = .ok (.getfield 27, 3) := by decide +kernel
theorem dX2_settingNumber_14 : decode cX2_settingNumber 14 = .ok (.if_icmp .ge 42, 3) := by decide +kernel
theorem dX2_settingNumber_17 : decode cX2_settingNumber 17 = .ok (.aload_n 0, 1) := by decide +kernel
theorem dX2_settingNumber_18 : decode cX2_settingNumber 18 = .ok (.iload 5, 2) := by decide +kernel
theorem dX2_settingNumber_20 : decode cX2_settingNumber 20 = .ok (.invokevirtual 102, 3) := by decide +kernel
theorem dX2_settingNumber_23 : decode cX2_settingNumber 23 = .ok (.ifCond .eq 27, 3) := by decide +kernel
theorem dX2_settingNumber_26 : decode cX2_settingNumber 26 = .ok (.iload_n 3, 1) := by decide +kernel
theorem dX2_settingNumber_27 : decode cX2_settingNumber 27 = .ok (.aload_n 1, 1) := by decide +kernel
theorem dX2_settingNumber_28 : decode cX2_settingNumber 28 = .ok (.iload_n 2, 1) := by decide +kernel
theorem dX2_settingNumber_29 : decode cX2_settingNumber 29 = .ok (.iload 5, 2) := by decide +kernel
theorem dX2_settingNumber_31 : decode cX2_settingNumber 31 = .ok (.iadd, 1) := by decide +kernel
theorem dX2_settingNumber_32 : decode cX2_settingNumber 32 = .ok (.iaload, 1) := by decide +kernel
theorem dX2_settingNumber_33 : decode cX2_settingNumber 33 = .ok (.iload 4, 2) := by decide +kernel
theorem dX2_settingNumber_35 : decode cX2_settingNumber 35 = .ok (.imul, 1) := by decide +kernel
theorem dX2_settingNumber_36 : decode cX2_settingNumber 36 = .ok (.iadd, 1) := by decide +kernel
theorem dX2_settingNumber_37 : decode cX2_settingNumber 37 = .ok (.istore_n 3, 1) := by decide +kernel
theorem dX2_settingNumber_38 : decode cX2_settingNumber 38 = .ok (.iload 4, 2) := by decide +kernel
theorem dX2_settingNumber_40 : decode cX2_settingNumber 40 = .ok (.aload_n 0, 1) := by decide +kernel
theorem dX2_settingNumber_41 : decode cX2_settingNumber 41 = .ok (.getfield 43, 3) := by decide +kernel
theorem dX2_settingNumber_44 : decode cX2_settingNumber 44 = .ok (.iload 5, 2) := by decide +kernel
theorem dX2_settingNumber_46 : decode cX2_settingNumber 46 = .ok (.iaload, 1) := by decide +kernel
theorem dX2_settingNumber_47 : decode cX2_settingNumber 47 = .ok (.imul, 1) := by decide +kernel
theorem dX2_settingNumber_48 : decode cX2_settingNumber 48 = .ok (.istore 4, 2) := by decide +kernel
theorem dX2_settingNumber_50 : decode cX2_settingNumber 50 = .ok (.iinc 5 1, 3) := by decide +kernel
theorem dX2_settingNumber_53 : decode cX2_settingNumber 53 = .ok (.goto (-45), 3) := by decide +kernel
theorem dX2_settingNumber_56 : decode cX2_settingNumber 56 = .ok (.iload_n 3, 1) := by decide +kernel
theorem dX2_settingNumber_57 : decode cX2_settingNumber 57 = .ok (.ireturn, 1) := by decide +kernel
theorem dX2_allSettings_0 : decode cX2_allSettings 0 = .ok (.iconst 1, 1) := by decide +kernel
theorem dX2_allSettings_1 : decode cX2_allSettings 1 = .ok (.istore_n 1, 1) := by decide +kernel
theorem dX2_allSettings_2 : decode cX2_allSettings 2 = .ok (.iconst 0, 1) := by decide +kernel
theorem dX2_allSettings_3 : decode cX2_allSettings 3 = .ok (.istore_n 2, 1) := by decide +kernel
theorem dX2_allSettings_4 : decode cX2_allSettings 4 = .ok (.iload_n 2, 1) := by decide +kernel
theorem dX2_allSettings_5 : decode cX2_allSettings 5 = .ok (.aload_n 0, 1) := by decide +kernel
theorem dX2_allSettings_6 : decode cX2_allSettings 6 = .ok (.getfield 27, 3) := by decide +kernel
theorem dX2_allSettings_9 : decode cX2_allSettings 9 = .ok (.if_icmp .ge 26, 3) := by decide +kernel
theorem dX2_allSettings_12 : decode cX2_allSettings 12 = .ok (.aload_n 0, 1) := by decide +kernel
theorem dX2_allSettings_13 : decode cX2_allSettings 13 = .ok (.iload_n 2, 1) := by decide +kernel
theorem dX2_allSettings_14 : decode cX2_allSettings 14 = .ok (.invokevirtual 102, 3) := by decide +kernel
theorem dX2_allSettings_17 : decode cX2_allSettings 17 = .ok (.ifCond .eq 12, 3) := by decide +kernel
theorem dX2_allSettings_20 : decode cX2_allSettings 20 = .ok (.iload_n 1, 1) := by decide +kernel
theorem dX2_allSettings_21 : decode cX2_allSettings 21 = .ok (.aload_n 0, 1) := by decide +kernel
theorem dX2_allSettings_22 : decode cX2_allSettings 22 = .ok (.getfield 43, 3) := by decide +kernel
theorem dX2_allSettings_25 : decode cX2_allSettings 25 = .ok (.iload_n 2, 1) := by decide +kernel
theorem dX2_allSettings_26 : decode cX2_allSettings 26 = .ok (.iaload, 1) := by decide +kernel
theorem dX2_allSettings_27 : decode cX2_allSettings 27 = .ok (.imul, 1) := by decide +kernel
theorem dX2_allSettings_28 : decode cX2_allSettings 28 = .ok (.istore_n 1, 1) := by decide +kernel
theorem dX2_allSettings_29 : decode cX2_allSettings 29 = .ok (.iinc 2 1, 3) := by decide +kernel
theorem dX2_allSettings_32 : decode cX2_allSettings 32 = .ok (.goto (-28), 3) := by decide +kernel
theorem dX2_allSettings_35 : decode cX2_allSettings 35 = .ok (.iload_n 1, 1) := by decide +kernel
theorem dX2_allSettings_36 : decode cX2_allSettings 36 = .ok (.ireturn, 1) := by decide +kernel
theorem dX2_isTree_0 : decode cX2_isTree 0 = .ok (.iconst 0, 1) := by decide +kernel
theorem dX2_isTree_1 : decode cX2_isTree 1 = .ok (.istore_n 3, 1) := by decide +kernel
theorem dX2_isTree_2 : decode cX2_isTree 2 = .ok (.iload_n 3, 1) := by decide +kernel
theorem dX2_isTree_3 : decode cX2_isTree 3 = .ok (.aload_n 0, 1) := by decide +kernel
theorem dX2_isTree_4 : decode cX2_isTree 4 = .ok (.getfield 27, 3) := by decide +kernel
theorem dX2_isTree_7 : decode cX2_isTree 7 = .ok (.if_icmp .ge 29, 3) := by decide +kernel
theorem dX2_isTree_10 : decode cX2_isTree 10 = .ok (.aload_n 0, 1) := by decide +kernel
theorem dX2_isTree_11 : decode cX2_isTree 11 = .ok (.iload_n 3, 1) := by decide +kernel
theorem dX2_isTree_12 : decode cX2_isTree 12 = .ok (.invokevirtual 102, 3) := by decide +kernel
theorem dX2_isTree_15 : decode cX2_isTree 15 = .ok (.ifCond .eq 15, 3) := by decide +kernel
theorem dX2_isTree_18 : decode cX2_isTree 18 = .ok (.aload_n 0, 1) := by decide +kernel
theorem dX2_isTree_19 : decode cX2_isTree 19 = .ok (.aload_n 1, 1) := by decide +kernel
theorem dX2_isTree_20 : decode cX2_isTree 20 = .ok (.iload_n 2, 1) := by decide +kernel
theorem dX2_isTree_21 : decode cX2_isTree 21 = .ok (.iload_n 3, 1) := by decide +kernel
theorem dX2_isTree_22 : decode cX2_isTree 22 = .ok (.invokevirtual 109, 3) := by decide +kernel
theorem dX2_isTree_25 : decode cX2_isTree 25 = .ok (.ifCond .ne 5, 3) := by decide +kernel
theorem dX2_isTree_28 : decode cX2_isTree 28 = .ok (.iconst 0, 1) := by decide +kernel
theorem dX2_isTree_29 : decode cX2_isTree 29 = .ok (.ireturn, 1) := by decide +kernel
theorem dX2_isTree_30 : decode cX2_isTree 30 = .ok (.iinc 3 1, 3) := by decide +kernel
theorem dX2_isTree_33 : decode cX2_isTree 33 = .ok (.goto (-31), 3) := by decide +kernel
theorem dX2_isTree_36 : decode cX2_isTree 36 = .ok (.iconst 1, 1) := by decide +kernel
theorem dX2_isTree_37 : decode cX2_isTree 37 = .ok (.ireturn, 1) := by decide +kernel
theorem dX2_leadsToInn_0 : decode cX2_leadsToInn 0 = .ok (.iload_n 3, 1) := by decide +kernel
theorem dX2_leadsToInn_1 : decode cX2_leadsToInn 1 = .ok (.istore 4, 2) := by decide +kernel
theorem dX2_leadsToInn_3 : decode cX2_leadsToInn 3 = .ok (.iconst 0, 1) := by decide +kernel
theorem dX2_leadsToInn_4 : decode cX2_leadsToInn 4 = .ok (.istore 5, 2) := by decide +kernel
theorem dX2_leadsToInn_6 : decode cX2_leadsToInn 6 = .ok (.iload 5, 2) := by decide +kernel
theorem dX2_leadsToInn_8 : decode cX2_leadsToInn 8 = .ok (.bipush 7, 2) := by decide +kernel
theorem dX2_leadsToInn_10 : decode cX2_leadsToInn 10 = .ok (.if_icmp .ge 39, 3) := by decide +kernel
theorem dX2_leadsToInn_13 : decode cX2_leadsToInn 13 = .ok (.iload 4, 2) := by decide +kernel
theorem dX2_leadsToInn_15 : decode cX2_leadsToInn 15 = .ok (.bipush 10, 2) := by decide +kernel
theorem dX2_leadsToInn_17 : decode cX2_leadsToInn 17 = .ok (.if_icmp .ge 32, 3) := by decide +kernel
theorem dX2_leadsToInn_20 : decode cX2_leadsToInn 20 = .ok (.aload_n 0, 1) := by decide +kernel
theorem dX2_leadsToInn_21 : decode cX2_leadsToInn 21 = .ok (.iload 4, 2) := by decide +kernel
theorem dX2_leadsToInn_23 : decode cX2_leadsToInn 23 = .ok (.invokevirtual 102, 3) := by decide +kernel
theorem dX2_leadsToInn_26 : decode cX2_leadsToInn 26 = .ok (.ifCond .eq 23, 3) := by decide +kernel
theorem dX2_leadsToInn_29 : decode cX2_leadsToInn 29 = .ok (.aload_n 0, 1) := by decide +kernel
theorem dX2_leadsToInn_30 : decode cX2_leadsToInn 30 = .ok (.iload 4, 2) := by decide +kernel
theorem dX2_leadsToInn_32 : decode cX2_leadsToInn 32 = .ok (.aload_n 1, 1) := by decide +kernel
theorem dX2_leadsToInn_33 : decode cX2_leadsToInn 33 = .ok (.iload_n 2, 1) := by decide +kernel
theorem dX2_leadsToInn_34 : decode cX2_leadsToInn 34 = .ok (.iload 4, 2) := by decide +kernel
theorem dX2_leadsToInn_36 : decode cX2_leadsToInn 36 = .ok (.iadd, 1) := by decide +kernel
theorem dX2_leadsToInn_37 : decode cX2_leadsToInn 37 = .ok (.iaload, 1) := by decide +kernel
theorem dX2_leadsToInn_38 : decode cX2_leadsToInn 38 = .ok (.invokevirtual 98, 3) := by decide +kernel
theorem dX2_leadsToInn_41 : decode cX2_leadsToInn 41 = .ok (.istore 4, 2) := by decide +kernel
theorem dX2_leadsToInn_43 : decode cX2_leadsToInn 43 = .ok (.iinc 5 1, 3) := by decide +kernel
theorem dX2_leadsToInn_46 : decode cX2_leadsToInn 46 = .ok (.goto (-40), 3) := by decide +kernel
theorem dX2_leadsToInn_49 : decode cX2_leadsToInn 49 = .ok (.iload 4, 2) := by decide +kernel
theorem dX2_leadsToInn_51 : decode cX2_leadsToInn 51 = .ok (.bipush 10, 2) := by decide +kernel
theorem dX2_leadsToInn_53 : decode cX2_leadsToInn 53 = .ok (.if_icmp .lt 7, 3) := by decide +kernel
theorem dX2_leadsToInn_56 : decode cX2_leadsToInn 56 = .ok (.iconst 1, 1) := by decide +kernel
theorem dX2_leadsToInn_57 : decode cX2_leadsToInn 57 = .ok (.goto 4, 3) := by decide +kernel
theorem dX2_leadsToInn_60 : decode cX2_leadsToInn 60 = .ok (.iconst 0, 1) := by decide +kernel
theorem dX2_leadsToInn_61 : decode cX2_leadsToInn 61 = .ok (.ireturn, 1) := by decide +kernel
theorem dX2_postsOnRings_0 : decode cX2_postsOnRings 0 = .ok (.iconst 0, 1) := by decide +kernel
theorem dX2_postsOnRings_1 : decode cX2_postsOnRings 1 = .ok (.istore_n 3, 1) := by decide +kernel
theorem dX2_postsOnRings_2 : decode cX2_postsOnRings 2 = .ok (.iconst 0, 1) := by decide +kernel
theorem dX2_postsOnRings_3 : decode cX2_postsOnRings 3 = .ok (.istore 4, 2) := by decide +kernel
theorem dX2_postsOnRings_5 : decode cX2_postsOnRings 5 = .ok (.iload 4, 2) := by decide +kernel
theorem dX2_postsOnRings_7 : decode cX2_postsOnRings 7 = .ok (.aload_n 0, 1) := by decide +kernel
theorem dX2_postsOnRings_8 : decode cX2_postsOnRings 8 = .ok (.getfield 27, 3) := by decide +kernel
theorem dX2_postsOnRings_11 : decode cX2_postsOnRings 11 = .ok (.if_icmp .ge 27, 3) := by decide +kernel
theorem dX2_postsOnRings_14 : decode cX2_postsOnRings 14 = .ok (.aload_n 0, 1) := by decide +kernel
theorem dX2_postsOnRings_15 : decode cX2_postsOnRings 15 = .ok (.aload_n 1, 1) := by decide +kernel
theorem dX2_postsOnRings_16 : decode cX2_postsOnRings 16 = .ok (.iload_n 2, 1) := by decide +kernel
theorem dX2_postsOnRings_17 : decode cX2_postsOnRings 17 = .ok (.iload 4, 2) := by decide +kernel
theorem dX2_postsOnRings_19 : decode cX2_postsOnRings 19 = .ok (.invokevirtual 113, 3) := by decide +kernel
theorem dX2_postsOnRings_22 : decode cX2_postsOnRings 22 = .ok (.ifCond .eq 10, 3) := by decide +kernel
theorem dX2_postsOnRings_25 : decode cX2_postsOnRings 25 = .ok (.iload_n 3, 1) := by decide +kernel
theorem dX2_postsOnRings_26 : decode cX2_postsOnRings 26 = .ok (.iconst 1, 1) := by decide +kernel
theorem dX2_postsOnRings_27 : decode cX2_postsOnRings 27 = .ok (.iload 4, 2) := by decide +kernel
theorem dX2_postsOnRings_29 : decode cX2_postsOnRings 29 = .ok (.ishl, 1) := by decide +kernel
theorem dX2_postsOnRings_30 : decode cX2_postsOnRings 30 = .ok (.ior, 1) := by decide +kernel
theorem dX2_postsOnRings_31 : decode cX2_postsOnRings 31 = .ok (.istore_n 3, 1) := by decide +kernel
theorem dX2_postsOnRings_32 : decode cX2_postsOnRings 32 = .ok (.iinc 4 1, 3) := by decide +kernel
theorem dX2_postsOnRings_35 : decode cX2_postsOnRings 35 = .ok (.goto (-30), 3) := by decide +kernel
theorem dX2_postsOnRings_38 : decode cX2_postsOnRings 38 = .ok (.iload_n 3, 1) := by decide +kernel
theorem dX2_postsOnRings_39 : decode cX2_postsOnRings 39 = .ok (.ireturn, 1) := by decide +kernel
theorem dX2_leadsBack_0 : decode cX2_leadsBack 0 = .ok (.iload_n 3, 1) := by decide +kernel
theorem dX2_leadsBack_1 : decode cX2_leadsBack 1 = .ok (.istore 4, 2) := by decide +kernel
theorem dX2_leadsBack_3 : decode cX2_leadsBack 3 = .ok (.iconst 0, 1) := by decide +kernel
theorem dX2_leadsBack_4 : decode cX2_leadsBack 4 = .ok (.istore 5, 2) := by decide +kernel
theorem dX2_leadsBack_6 : decode cX2_leadsBack 6 = .ok (.iload 5, 2) := by decide +kernel
theorem dX2_leadsBack_8 : decode cX2_leadsBack 8 = .ok (.bipush 7, 2) := by decide +kernel
theorem dX2_leadsBack_10 : decode cX2_leadsBack 10 = .ok (.if_icmp .ge 47, 3) := by decide +kernel
theorem dX2_leadsBack_13 : decode cX2_leadsBack 13 = .ok (.iload 4, 2) := by decide +kernel
theorem dX2_leadsBack_15 : decode cX2_leadsBack 15 = .ok (.bipush 10, 2) := by decide +kernel
theorem dX2_leadsBack_17 : decode cX2_leadsBack 17 = .ok (.if_icmp .ge 40, 3) := by decide +kernel
theorem dX2_leadsBack_20 : decode cX2_leadsBack 20 = .ok (.aload_n 0, 1) := by decide +kernel
theorem dX2_leadsBack_21 : decode cX2_leadsBack 21 = .ok (.iload 4, 2) := by decide +kernel
theorem dX2_leadsBack_23 : decode cX2_leadsBack 23 = .ok (.invokevirtual 102, 3) := by decide +kernel
theorem dX2_leadsBack_26 : decode cX2_leadsBack 26 = .ok (.ifCond .eq 31, 3) := by decide +kernel
theorem dX2_leadsBack_29 : decode cX2_leadsBack 29 = .ok (.aload_n 0, 1) := by decide +kernel
theorem dX2_leadsBack_30 : decode cX2_leadsBack 30 = .ok (.iload 4, 2) := by decide +kernel
theorem dX2_leadsBack_32 : decode cX2_leadsBack 32 = .ok (.aload_n 1, 1) := by decide +kernel
theorem dX2_leadsBack_33 : decode cX2_leadsBack 33 = .ok (.iload_n 2, 1) := by decide +kernel
theorem dX2_leadsBack_34 : decode cX2_leadsBack 34 = .ok (.iload 4, 2) := by decide +kernel
theorem dX2_leadsBack_36 : decode cX2_leadsBack 36 = .ok (.iadd, 1) := by decide +kernel
theorem dX2_leadsBack_37 : decode cX2_leadsBack 37 = .ok (.iaload, 1) := by decide +kernel
theorem dX2_leadsBack_38 : decode cX2_leadsBack 38 = .ok (.invokevirtual 98, 3) := by decide +kernel
theorem dX2_leadsBack_41 : decode cX2_leadsBack 41 = .ok (.istore 4, 2) := by decide +kernel
theorem dX2_leadsBack_43 : decode cX2_leadsBack 43 = .ok (.iload 4, 2) := by decide +kernel
theorem dX2_leadsBack_45 : decode cX2_leadsBack 45 = .ok (.iload_n 3, 1) := by decide +kernel
theorem dX2_leadsBack_46 : decode cX2_leadsBack 46 = .ok (.if_icmp .ne 5, 3) := by decide +kernel
theorem dX2_leadsBack_49 : decode cX2_leadsBack 49 = .ok (.iconst 1, 1) := by decide +kernel
theorem dX2_leadsBack_50 : decode cX2_leadsBack 50 = .ok (.ireturn, 1) := by decide +kernel
theorem dX2_leadsBack_51 : decode cX2_leadsBack 51 = .ok (.iinc 5 1, 3) := by decide +kernel
theorem dX2_leadsBack_54 : decode cX2_leadsBack 54 = .ok (.goto (-48), 3) := by decide +kernel
theorem dX2_leadsBack_57 : decode cX2_leadsBack 57 = .ok (.iconst 0, 1) := by decide +kernel
theorem dX2_leadsBack_58 : decode cX2_leadsBack 58 = .ok (.ireturn, 1) := by decide +kernel
theorem dJ6_bitCount_0f7a4_0 : decode cJ6_bitCount_0f7a4 0 = .ok (.iload_n 0, 1) := by decide +kernel
theorem dJ6_bitCount_0f7a4_1 : decode cJ6_bitCount_0f7a4 1 = .ok (.iload_n 0, 1) := by decide +kernel
theorem dJ6_bitCount_0f7a4_2 : decode cJ6_bitCount_0f7a4 2 = .ok (.iconst 1, 1) := by decide +kernel
theorem dJ6_bitCount_0f7a4_3 : decode cJ6_bitCount_0f7a4 3 = .ok (.iushr, 1) := by decide +kernel
theorem dJ6_bitCount_0f7a4_4 : decode cJ6_bitCount_0f7a4 4 = .ok (.ldc_w 265, 3) := by decide +kernel
theorem dJ6_bitCount_0f7a4_7 : decode cJ6_bitCount_0f7a4 7 = .ok (.iand, 1) := by decide +kernel
theorem dJ6_bitCount_0f7a4_8 : decode cJ6_bitCount_0f7a4 8 = .ok (.isub, 1) := by decide +kernel
theorem dJ6_bitCount_0f7a4_9 : decode cJ6_bitCount_0f7a4 9 = .ok (.istore_n 0, 1) := by decide +kernel
theorem dJ6_bitCount_0f7a4_10 : decode cJ6_bitCount_0f7a4 10 = .ok (.iload_n 0, 1) := by decide +kernel
theorem dJ6_bitCount_0f7a4_11 : decode cJ6_bitCount_0f7a4 11 = .ok (.ldc_w 266, 3) := by decide +kernel
theorem dJ6_bitCount_0f7a4_14 : decode cJ6_bitCount_0f7a4 14 = .ok (.iand, 1) := by decide +kernel
theorem dJ6_bitCount_0f7a4_15 : decode cJ6_bitCount_0f7a4 15 = .ok (.iload_n 0, 1) := by decide +kernel
theorem dJ6_bitCount_0f7a4_16 : decode cJ6_bitCount_0f7a4 16 = .ok (.iconst 2, 1) := by decide +kernel
theorem dJ6_bitCount_0f7a4_17 : decode cJ6_bitCount_0f7a4 17 = .ok (.iushr, 1) := by decide +kernel
theorem dJ6_bitCount_0f7a4_18 : decode cJ6_bitCount_0f7a4 18 = .ok (.ldc_w 266, 3) := by decide +kernel
theorem dJ6_bitCount_0f7a4_21 : decode cJ6_bitCount_0f7a4 21 = .ok (.iand, 1) := by decide +kernel
theorem dJ6_bitCount_0f7a4_22 : decode cJ6_bitCount_0f7a4 22 = .ok (.iadd, 1) := by decide +kernel
theorem dJ6_bitCount_0f7a4_23 : decode cJ6_bitCount_0f7a4 23 = .ok (.istore_n 0, 1) := by decide +kernel
theorem dJ6_bitCount_0f7a4_24 : decode cJ6_bitCount_0f7a4 24 = .ok (.iload_n 0, 1) := by decide +kernel
theorem dJ6_bitCount_0f7a4_25 : decode cJ6_bitCount_0f7a4 25 = .ok (.iload_n 0, 1) := by decide +kernel
theorem dJ6_bitCount_0f7a4_26 : decode cJ6_bitCount_0f7a4 26 = .ok (.iconst 4, 1) := by decide +kernel
theorem dJ6_bitCount_0f7a4_27 : decode cJ6_bitCount_0f7a4 27 = .ok (.iushr, 1) := by decide +kernel
theorem dJ6_bitCount_0f7a4_28 : decode cJ6_bitCount_0f7a4 28 = .ok (.iadd, 1) := by decide +kernel
theorem dJ6_bitCount_0f7a4_29 : decode cJ6_bitCount_0f7a4 29 = .ok (.ldc_w 267, 3) := by decide +kernel
theorem dJ6_bitCount_0f7a4_32 : decode cJ6_bitCount_0f7a4 32 = .ok (.iand, 1) := by decide +kernel
theorem dJ6_bitCount_0f7a4_33 : decode cJ6_bitCount_0f7a4 33 = .ok (.istore_n 0, 1) := by decide +kernel
theorem dJ6_bitCount_0f7a4_34 : decode cJ6_bitCount_0f7a4 34 = .ok (.iload_n 0, 1) := by decide +kernel
theorem dJ6_bitCount_0f7a4_35 : decode cJ6_bitCount_0f7a4 35 = .ok (.iload_n 0, 1) := by decide +kernel
theorem dJ6_bitCount_0f7a4_36 : decode cJ6_bitCount_0f7a4 36 = .ok (.bipush 8, 2) := by decide +kernel
theorem dJ6_bitCount_0f7a4_38 : decode cJ6_bitCount_0f7a4 38 = .ok (.iushr, 1) := by decide +kernel
theorem dJ6_bitCount_0f7a4_39 : decode cJ6_bitCount_0f7a4 39 = .ok (.iadd, 1) := by decide +kernel
theorem dJ6_bitCount_0f7a4_40 : decode cJ6_bitCount_0f7a4 40 = .ok (.istore_n 0, 1) := by decide +kernel
theorem dJ6_bitCount_0f7a4_41 : decode cJ6_bitCount_0f7a4 41 = .ok (.iload_n 0, 1) := by decide +kernel
theorem dJ6_bitCount_0f7a4_42 : decode cJ6_bitCount_0f7a4 42 = .ok (.iload_n 0, 1) := by decide +kernel
theorem dJ6_bitCount_0f7a4_43 : decode cJ6_bitCount_0f7a4 43 = .ok (.bipush 16, 2) := by decide +kernel
theorem dJ6_bitCount_0f7a4_45 : decode cJ6_bitCount_0f7a4 45 = .ok (.iushr, 1) := by decide +kernel
theorem dJ6_bitCount_0f7a4_46 : decode cJ6_bitCount_0f7a4 46 = .ok (.iadd, 1) := by decide +kernel
theorem dJ6_bitCount_0f7a4_47 : decode cJ6_bitCount_0f7a4 47 = .ok (.istore_n 0, 1) := by decide +kernel
theorem dJ6_bitCount_0f7a4_48 : decode cJ6_bitCount_0f7a4 48 = .ok (.iload_n 0, 1) := by decide +kernel
theorem dJ6_bitCount_0f7a4_49 : decode cJ6_bitCount_0f7a4 49 = .ok (.bipush 63, 2) := by decide +kernel
theorem dJ6_bitCount_0f7a4_51 : decode cJ6_bitCount_0f7a4 51 = .ok (.iand, 1) := by decide +kernel
theorem dJ6_bitCount_0f7a4_52 : decode cJ6_bitCount_0f7a4 52 = .ok (.ireturn, 1) := by decide +kernel
theorem layX2 : ∀ k, k < 16 → u_lay RX2 TX2 k ∈ tblG := fun k hk => match k, hk with
  | 0, _ => gw1 147 (by decide +kernel) (by decide +kernel)
  | 1, _ => gw1 149 (by decide +kernel) (by decide +kernel)
  | 2, _ => gw1 151 (by decide +kernel) (by decide +kernel)
  | 3, _ => gw1 153 (by decide +kernel) (by decide +kernel)
  | 4, _ => gw1 155 (by decide +kernel) (by decide +kernel)
  | 5, _ => gw1 157 (by decide +kernel) (by decide +kernel)
  | 6, _ => gw1 159 (by decide +kernel) (by decide +kernel)
  | 7, _ => gw1 161 (by decide +kernel) (by decide +kernel)
  | 8, _ => gw1 163 (by decide +kernel) (by decide +kernel)
  | 9, _ => gw1 165 (by decide +kernel) (by decide +kernel)
  | 10, _ => gw1 167 (by decide +kernel) (by decide +kernel)
  | 11, _ => gw1 169 (by decide +kernel) (by decide +kernel)
  | 12, _ => gw1 171 (by decide +kernel) (by decide +kernel)
  | 13, _ => gw1 173 (by decide +kernel) (by decide +kernel)
  | 14, _ => gw1 175 (by decide +kernel) (by decide +kernel)
  | 15, _ => gw1 177 (by decide +kernel) (by decide +kernel)
  | k + 16, hk => absurd hk (by omega)
theorem clX2 : CLk 2 RX2 TX2 16 tyX2 := ⟨rfl, fun w hw => by
  obtain ⟨k, hk, rfl⟩ := List.mem_map.mp hw
  exact layX2 k (List.mem_range.mp hk), tyX2_ok, nmX2⟩
theorem wd0 : Cond.fieldLink RX2 9 RX2 "lines" "I" ∈ tblG := gw1 85 (by decide +kernel) (by decide +kernel)
theorem fk_X2_9 : FLk RX2 9 2 0 (.int) false := ⟨RX2, TX2, 16, tyX2, clX2, by decide, rfl, rfl, rfl, Or.inl wd0⟩
theorem wd1 : Cond.fieldLink RX2 24 RX2 "inns" "I" ∈ tblG := gw1 102 (by decide +kernel) (by decide +kernel)
theorem fk_X2_24 : FLk RX2 24 2 4 (.int) false := ⟨RX2, TX2, 16, tyX2, clX2, by decide, rfl, rfl, rfl, Or.inl wd1⟩
theorem wd2 : Cond.fieldLink RX2 27 RX2 "posts" "I" ∈ tblG := gw1 105 (by decide +kernel) (by decide +kernel)
theorem fk_X2_27 : FLk RX2 27 2 5 (.int) false := ⟨RX2, TX2, 16, tyX2, clX2, by decide, rfl, rfl, rfl, Or.inl wd2⟩
theorem wd3 : Cond.fieldLink RX2 36 RX2 "walkers" "I" ∈ tblG := gw1 116 (by decide +kernel) (by decide +kernel)
theorem fk_X2_36 : FLk RX2 36 2 8 (.int) false := ⟨RX2, TX2, 16, tyX2, clX2, by decide, rfl, rfl, rfl, Or.inl wd3⟩
theorem wd4 : Cond.methodLink RX2 91 yX2_isTold ∈ tblG := gw3 130 (by decide +kernel) (by decide +kernel)
theorem wd5 : Cond.instanceMethod yX2_isTold ∈ tblG := gw3 131 (by decide +kernel) (by decide +kernel)
theorem wd6 : Cond.selects RX2 yX2_isTold yX2_isTold ∈ tblG := gw3 132 (by decide +kernel) (by decide +kernel)
theorem wd7 : Cond.initialized RX2 ∈ tblG := gw1 3 (by decide +kernel) (by decide +kernel)
theorem wd8 : Cond.code yX2_isTold cX2_isTold 1 (some .boolean) ∈ tblG := gw3 133 (by decide +kernel) (by decide +kernel)
theorem pl_X2_isTold : Plain yX2_isTold 0 := ⟨by decide, by decide, by decide +kernel⟩
theorem lk_X2_91 : LkV RX2 91 2 yX2_isTold cX2_isTold 1 (some .boolean) 0 := ⟨⟨TX2, 16, rfl⟩, wd4, wd5, wd6, wd7, wd8, pl_X2_isTold⟩
theorem wd9 : Cond.fieldLink RX2 15 RX2 "hours" "I" ∈ tblG := gw1 88 (by decide +kernel) (by decide +kernel)
theorem fk_X2_15 : FLk RX2 15 2 1 (.int) false := ⟨RX2, TX2, 16, tyX2, clX2, by decide, rfl, rfl, rfl, Or.inl wd9⟩
theorem wd10 : Cond.methodLink RX2 95 yX2_hasHour ∈ tblG := gw3 165 (by decide +kernel) (by decide +kernel)
theorem wd11 : Cond.instanceMethod yX2_hasHour ∈ tblG := gw3 127 (by decide +kernel) (by decide +kernel)
theorem wd12 : Cond.selects RX2 yX2_hasHour yX2_hasHour ∈ tblG := gw3 128 (by decide +kernel) (by decide +kernel)
theorem wd13 : Cond.code yX2_hasHour cX2_hasHour 2 (some .boolean) ∈ tblG := gw3 129 (by decide +kernel) (by decide +kernel)
theorem pl_X2_hasHour : Plain yX2_hasHour 1 := ⟨by decide, by decide, by decide +kernel⟩
theorem lk_X2_95 : LkV RX2 95 2 yX2_hasHour cX2_hasHour 2 (some .boolean) 1 := ⟨⟨TX2, 16, rfl⟩, wd10, wd11, wd12, wd7, wd13, pl_X2_hasHour⟩
theorem wd14 : Cond.fieldLink RX2 43 RX2 "roadsOf" "[I" ∈ tblG := gw1 125 (by decide +kernel) (by decide +kernel)
theorem fk_X2_43 : FLk RX2 43 2 10 (.array .int) true := ⟨RX2, TX2, 16, tyX2, clX2, by decide, rfl, rfl, rfl, Or.inl wd14⟩
theorem wd15 : Cond.fieldLink RX2 46 RX2 "goals" "[I" ∈ tblG := gw1 130 (by decide +kernel) (by decide +kernel)
theorem fk_X2_46 : FLk RX2 46 2 11 (.array .int) true := ⟨RX2, TX2, 16, tyX2, clX2, by decide, rfl, rfl, rfl, Or.inl wd15⟩
theorem wd16 : Cond.methodLink RX2 98 yX2_goal ∈ tblG := gw4 7 (by decide +kernel) (by decide +kernel)
theorem wd17 : Cond.instanceMethod yX2_goal ∈ tblG := gw3 70 (by decide +kernel) (by decide +kernel)
theorem wd18 : Cond.selects RX2 yX2_goal yX2_goal ∈ tblG := gw3 71 (by decide +kernel) (by decide +kernel)
theorem wd19 : Cond.code yX2_goal cX2_goal 3 (some .int) ∈ tblG := gw3 72 (by decide +kernel) (by decide +kernel)
theorem pl_X2_goal : Plain yX2_goal 2 := ⟨by decide, by decide, by decide +kernel⟩
theorem lk_X2_98 : LkV RX2 98 2 yX2_goal cX2_goal 3 (some .int) 2 := ⟨⟨TX2, 16, rfl⟩, wd16, wd17, wd18, wd7, wd19, pl_X2_goal⟩
theorem wd20 : Cond.methodLink RX2 102 yX2_hasArm ∈ tblG := gw4 89 (by decide +kernel) (by decide +kernel)
theorem wd21 : Cond.instanceMethod yX2_hasArm ∈ tblG := gw3 33 (by decide +kernel) (by decide +kernel)
theorem wd22 : Cond.selects RX2 yX2_hasArm yX2_hasArm ∈ tblG := gw3 34 (by decide +kernel) (by decide +kernel)
theorem wd23 : Cond.code yX2_hasArm cX2_hasArm 2 (some .boolean) ∈ tblG := gw3 35 (by decide +kernel) (by decide +kernel)
theorem pl_X2_hasArm : Plain yX2_hasArm 1 := ⟨by decide, by decide, by decide +kernel⟩
theorem lk_X2_102 : LkV RX2 102 2 yX2_hasArm cX2_hasArm 2 (some .boolean) 1 := ⟨⟨TX2, 16, rfl⟩, wd20, wd21, wd22, wd7, wd23, pl_X2_hasArm⟩
theorem wd24 : Cond.methodLink RX2 105 yX2_oneRoadOn ∈ tblG := gw4 118 (by decide +kernel) (by decide +kernel)
theorem wd25 : Cond.instanceMethod yX2_oneRoadOn ∈ tblG := gw4 120 (by decide +kernel) (by decide +kernel)
theorem wd26 : Cond.selects RX2 yX2_oneRoadOn yX2_oneRoadOn ∈ tblG := gw0 26 (by decide +kernel) (by decide +kernel)
theorem wd27 : Cond.code yX2_oneRoadOn cX2_oneRoadOn 5 (some .int) ∈ tblG := gw4 121 (by decide +kernel) (by decide +kernel)
theorem pl_X2_oneRoadOn : Plain yX2_oneRoadOn 1 := ⟨by decide, by decide, by decide +kernel⟩
theorem lk_X2_105 : LkV RX2 105 2 yX2_oneRoadOn cX2_oneRoadOn 5 (some .int) 1 := ⟨⟨TX2, 16, rfl⟩, wd24, wd25, wd26, wd7, wd27, pl_X2_oneRoadOn⟩
theorem wd28 : Cond.methodLink RX2 109 yX2_leadsToInn ∈ tblG := gw4 206 (by decide +kernel) (by decide +kernel)
theorem wd29 : Cond.instanceMethod yX2_leadsToInn ∈ tblG := gw4 208 (by decide +kernel) (by decide +kernel)
theorem wd30 : Cond.selects RX2 yX2_leadsToInn yX2_leadsToInn ∈ tblG := gw0 28 (by decide +kernel) (by decide +kernel)
theorem wd31 : Cond.code yX2_leadsToInn cX2_leadsToInn 6 (some .boolean) ∈ tblG := gw4 209 (by decide +kernel) (by decide +kernel)
theorem pl_X2_leadsToInn : Plain yX2_leadsToInn 3 := ⟨by decide, by decide, by decide +kernel⟩
theorem lk_X2_109 : LkV RX2 109 2 yX2_leadsToInn cX2_leadsToInn 6 (some .boolean) 3 := ⟨⟨TX2, 16, rfl⟩, wd28, wd29, wd30, wd7, wd31, pl_X2_leadsToInn⟩
theorem wd32 : Cond.methodLink RX2 113 yX2_leadsBack ∈ tblG := gw4 218 (by decide +kernel) (by decide +kernel)
theorem wd33 : Cond.instanceMethod yX2_leadsBack ∈ tblG := gw4 220 (by decide +kernel) (by decide +kernel)
theorem wd34 : Cond.selects RX2 yX2_leadsBack yX2_leadsBack ∈ tblG := gw0 29 (by decide +kernel) (by decide +kernel)
theorem wd35 : Cond.code yX2_leadsBack cX2_leadsBack 6 (some .boolean) ∈ tblG := gw4 221 (by decide +kernel) (by decide +kernel)
theorem pl_X2_leadsBack : Plain yX2_leadsBack 3 := ⟨by decide, by decide, by decide +kernel⟩
theorem lk_X2_113 : LkV RX2 113 2 yX2_leadsBack cX2_leadsBack 6 (some .boolean) 3 := ⟨⟨TX2, 16, rfl⟩, wd32, wd33, wd34, wd7, wd35, pl_X2_leadsBack⟩
theorem wd36 : Cond.constant RJ6 265 (1431655765) ∈ tblG := gw4 20 (by decide +kernel) (by decide +kernel)
theorem wd37 : Cond.constant RJ6 266 (858993459) ∈ tblG := gw4 21 (by decide +kernel) (by decide +kernel)
theorem wd38 : Cond.constant RJ6 267 (252645135) ∈ tblG := gw4 22 (by decide +kernel) (by decide +kernel)
