theorem dX2_isTold_0 : decode cX2_isTold 0 = .ok (.aload_n 0, 1) := by decide +kernel
theorem dX2_isTold_1 : decode cX2_isTold 1 = .ok (.getfield 9, 3) := by decide +kernel
theorem dX2_isTold_4 : decode cX2_isTold 4 = .ok (.ifCond .le 7, 3) := by decide +kernel
theorem dX2_isTold_7 : decode cX2_isTold 7 = .ok (.iconst 1, 1) := by decide +kernel
theorem dX2_isTold_8 : decode cX2_isTold 8 = .ok (.goto 4, 3) := by decide +kernel
theorem dX2_isTold_11 : decode cX2_isTold 11 = .ok (.iconst 0, 1) := by decide +kernel
theorem dX2_isTold_12 : decode cX2_isTold 12 = .ok (.ireturn, 1) := by decide +kernel
theorem dX2_hasInn_0 : decode cX2_hasInn 0 = .ok (.iload_n 1, 1) := by decide +kernel
theorem dX2_hasInn_1 : decode cX2_hasInn 1 = .ok (.ifCond .lt 15, 3) := by decide +kernel
theorem dX2_hasInn_4 : decode cX2_hasInn 4 = .ok (.iload_n 1, 1) := by decide +kernel
theorem dX2_hasInn_5 : decode cX2_hasInn 5 = .ok (.aload_n 0, 1) := by decide +kernel
theorem dX2_hasInn_6 : decode cX2_hasInn 6 = .ok (.getfield 24, 3) := by decide +kernel
theorem dX2_hasInn_9 : decode cX2_hasInn 9 = .ok (.if_icmp .ge 7, 3) := by decide +kernel
theorem dX2_hasInn_12 : decode cX2_hasInn 12 = .ok (.iconst 1, 1) := by decide +kernel
theorem dX2_hasInn_13 : decode cX2_hasInn 13 = .ok (.goto 4, 3) := by decide +kernel
theorem dX2_hasInn_16 : decode cX2_hasInn 16 = .ok (.iconst 0, 1) := by decide +kernel
theorem dX2_hasInn_17 : decode cX2_hasInn 17 = .ok (.ireturn, 1) := by decide +kernel
theorem dX2_hasPost_0 : decode cX2_hasPost 0 = .ok (.iload_n 1, 1) := by decide +kernel
theorem dX2_hasPost_1 : decode cX2_hasPost 1 = .ok (.ifCond .lt 15, 3) := by decide +kernel
theorem dX2_hasPost_4 : decode cX2_hasPost 4 = .ok (.iload_n 1, 1) := by decide +kernel
theorem dX2_hasPost_5 : decode cX2_hasPost 5 = .ok (.aload_n 0, 1) := by decide +kernel
theorem dX2_hasPost_6 : decode cX2_hasPost 6 = .ok (.getfield 27, 3) := by decide +kernel
theorem dX2_hasPost_9 : decode cX2_hasPost 9 = .ok (.if_icmp .ge 7, 3) := by decide +kernel
theorem dX2_hasPost_12 : decode cX2_hasPost 12 = .ok (.iconst 1, 1) := by decide +kernel
theorem dX2_hasPost_13 : decode cX2_hasPost 13 = .ok (.goto 4, 3) := by decide +kernel
theorem dX2_hasPost_16 : decode cX2_hasPost 16 = .ok (.iconst 0, 1) := by decide +kernel
theorem dX2_hasPost_17 : decode cX2_hasPost 17 = .ok (.ireturn, 1) := by decide +kernel
theorem dX2_hasWalker_0 : decode cX2_hasWalker 0 = .ok (.iload_n 1, 1) := by decide +kernel
theorem dX2_hasWalker_1 : decode cX2_hasWalker 1 = .ok (.ifCond .lt 15, 3) := by decide +kernel
theorem dX2_hasWalker_4 : decode cX2_hasWalker 4 = .ok (.iload_n 1, 1) := by decide +kernel
theorem dX2_hasWalker_5 : decode cX2_hasWalker 5 = .ok (.aload_n 0, 1) := by decide +kernel
theorem dX2_hasWalker_6 : decode cX2_hasWalker 6 = .ok (.getfield 36, 3) := by decide +kernel
theorem dX2_hasWalker_9 : decode cX2_hasWalker 9 = .ok (.if_icmp .ge 7, 3) := by decide +kernel
theorem dX2_hasWalker_12 : decode cX2_hasWalker 12 = .ok (.iconst 1, 1) := by decide +kernel
theorem dX2_hasWalker_13 : decode cX2_hasWalker 13 = .ok (.goto 4, 3) := by decide +kernel
theorem dX2_hasWalker_16 : decode cX2_hasWalker 16 = .ok (.iconst 0, 1) := by decide +kernel
theorem dX2_hasWalker_17 : decode cX2_hasWalker 17 = .ok (.ireturn, 1) := by decide +kernel
theorem dX2_hasHour_0 : decode cX2_hasHour 0 = .ok (.aload_n 0, 1) := by decide +kernel
theorem dX2_hasHour_1 : decode cX2_hasHour 1 = .ok (.invokevirtual 91, 3) := by decide +kernel
theorem dX2_hasHour_4 : decode cX2_hasHour 4 = .ok (.ifCond .eq 19, 3) := by decide +kernel
theorem dX2_hasHour_7 : decode cX2_hasHour 7 = .ok (.iload_n 1, 1) := by decide +kernel
theorem dX2_hasHour_8 : decode cX2_hasHour 8 = .ok (.ifCond .lt 15, 3) := by decide +kernel
theorem dX2_hasHour_11 : decode cX2_hasHour 11 = .ok (.iload_n 1, 1) := by decide +kernel
theorem dX2_hasHour_12 : decode cX2_hasHour 12 = .ok (.aload_n 0, 1) := by decide +kernel
theorem dX2_hasHour_13 : decode cX2_hasHour 13 = .ok (.getfield 15, 3) := by decide +kernel
theorem dX2_hasHour_16 : decode cX2_hasHour 16 = .ok (.if_icmp .gt 7, 3) := by decide +kernel
theorem dX2_hasHour_19 : decode cX2_hasHour 19 = .ok (.iconst 1, 1) := by decide +kernel
theorem dX2_hasHour_20 : decode cX2_hasHour 20 = .ok (.goto 4, 3) := by decide +kernel
theorem dX2_hasHour_23 : decode cX2_hasHour 23 = .ok (.iconst 0, 1) := by decide +kernel
theorem dX2_hasHour_24 : decode cX2_hasHour 24 = .ok (.ireturn, 1) := by decide +kernel
theorem dX2_hasHourAhead_0 : decode cX2_hasHourAhead 0 = .ok (.aload_n 0, 1) := by decide +kernel
theorem dX2_hasHourAhead_1 : decode cX2_hasHourAhead 1 = .ok (.iload_n 1, 1) := by decide +kernel
theorem dX2_hasHourAhead_2 : decode cX2_hasHourAhead 2 = .ok (.invokevirtual 95, 3) := by decide +kernel
theorem dX2_hasHourAhead_5 : decode cX2_hasHourAhead 5 = .ok (.ifCond .eq 15, 3) := by decide +kernel
theorem dX2_hasHourAhead_8 : decode cX2_hasHourAhead 8 = .ok (.iload_n 1, 1) := by decide +kernel
theorem dX2_hasHourAhead_9 : decode cX2_hasHourAhead 9 = .ok (.aload_n 0, 1) := by decide +kernel
theorem dX2_hasHourAhead_10 : decode cX2_hasHourAhead 10 = .ok (.getfield 15, 3) := by decide +kernel
theorem dX2_hasHourAhead_13 : decode cX2_hasHourAhead 13 = .ok (.if_icmp .ge 7, 3) := by decide +kernel
theorem dX2_hasHourAhead_16 : decode cX2_hasHourAhead 16 = .ok (.iconst 1, 1) := by decide +kernel
theorem dX2_hasHourAhead_17 : decode cX2_hasHourAhead 17 = .ok (.goto 4, 3) := by decide +kernel
theorem dX2_hasHourAhead_20 : decode cX2_hasHourAhead 20 = .ok (.iconst 0, 1) := by decide +kernel
theorem dX2_hasHourAhead_21 : decode cX2_hasHourAhead 21 = .ok (.ireturn, 1) := by decide +kernel
theorem dX2_hasArm_0 : decode cX2_hasArm 0 = .ok (.aload_n 0, 1) := by decide +kernel
theorem dX2_hasArm_1 : decode cX2_hasArm 1 = .ok (.getfield 43, 3) := by decide +kernel
theorem dX2_hasArm_4 : decode cX2_hasArm 4 = .ok (.iload_n 1, 1) := by decide +kernel
theorem dX2_hasArm_5 : decode cX2_hasArm 5 = .ok (.iaload, 1) := by decide +kernel
theorem dX2_hasArm_6 : decode cX2_hasArm 6 = .ok (.ifCond .le 7, 3) := by decide +kernel
theorem dX2_hasArm_9 : decode cX2_hasArm 9 = .ok (.iconst 1, 1) := by decide +kernel
theorem dX2_hasArm_10 : decode cX2_hasArm 10 = .ok (.goto 4, 3) := by decide +kernel
theorem dX2_hasArm_13 : decode cX2_hasArm 13 = .ok (.iconst 0, 1) := by decide +kernel
theorem dX2_hasArm_14 : decode cX2_hasArm 14 = .ok (.ireturn, 1) := by decide +kernel
theorem dX2_goal_0 : decode cX2_goal 0 = .ok (.aload_n 0, 1) := by decide +kernel
theorem dX2_goal_1 : decode cX2_goal 1 = .ok (.getfield 46, 3) := by decide +kernel
theorem dX2_goal_4 : decode cX2_goal 4 = .ok (.iload_n 1, 1) := by decide +kernel
theorem dX2_goal_5 : decode cX2_goal 5 = .ok (.iconst 4, 1) := by decide +kernel
theorem dX2_goal_6 : decode cX2_goal 6 = .ok (.imul, 1) := by decide +kernel
theorem dX2_goal_7 : decode cX2_goal 7 = .ok (.iload_n 2, 1) := by decide +kernel
theorem dX2_goal_8 : decode cX2_goal 8 = .ok (.iadd, 1) := by decide +kernel
theorem dX2_goal_9 : decode cX2_goal 9 = .ok (.iaload, 1) := by decide +kernel
theorem dX2_goal_10 : decode cX2_goal 10 = .ok (.ireturn, 1) := by decide +kernel
theorem dX2_nextRoad_0 : decode cX2_nextRoad 0 = .ok (.iload_n 2, 1) := by decide +kernel
theorem dX2_nextRoad_1 : decode cX2_nextRoad 1 = .ok (.iconst 1, 1) := by decide +kernel
theorem dX2_nextRoad_2 : decode cX2_nextRoad 2 = .ok (.iadd, 1) := by decide +kernel
theorem dX2_nextRoad_3 : decode cX2_nextRoad 3 = .ok (.aload_n 0, 1) := by decide +kernel
theorem dX2_nextRoad_4 : decode cX2_nextRoad 4 = .ok (.getfield 43, 3) := by decide +kernel
theorem dX2_nextRoad_7 : decode cX2_nextRoad 7 = .ok (.iload_n 1, 1) := by decide +kernel
theorem dX2_nextRoad_8 : decode cX2_nextRoad 8 = .ok (.iaload, 1) := by decide +kernel
theorem dX2_nextRoad_9 : decode cX2_nextRoad 9 = .ok (.if_icmp .ge 9, 3) := by decide +kernel
theorem dX2_nextRoad_12 : decode cX2_nextRoad 12 = .ok (.iload_n 2, 1) := by decide +kernel
theorem dX2_nextRoad_13 : decode cX2_nextRoad 13 = .ok (.iconst 1, 1) := by decide +kernel
theorem dX2_nextRoad_14 : decode cX2_nextRoad 14 = .ok (.iadd, 1) := by decide +kernel
theorem dX2_nextRoad_15 : decode cX2_nextRoad 15 = .ok (.goto 4, 3) := by decide +kernel
theorem dX2_nextRoad_18 : decode cX2_nextRoad 18 = .ok (.iconst 0, 1) := by decide +kernel
theorem dX2_nextRoad_19 : decode cX2_nextRoad 19 = .ok (.ireturn, 1) := by decide +kernel
theorem dX2_innsBeside_0 : decode cX2_innsBeside 0 = .ok (.iconst 0, 1) := by decide +kernel
theorem dX2_innsBeside_1 : decode cX2_innsBeside 1 = .ok (.istore_n 2, 1) := by decide +kernel
theorem dX2_innsBeside_2 : decode cX2_innsBeside 2 = .ok (.iconst 0, 1) := by decide +kernel
theorem dX2_innsBeside_3 : decode cX2_innsBeside 3 = .ok (.istore_n 3, 1) := by decide +kernel
theorem dX2_innsBeside_4 : decode cX2_innsBeside 4 = .ok (.iload_n 3, 1) := by decide +kernel
theorem dX2_innsBeside_5 : decode cX2_innsBeside 5 = .ok (.aload_n 0, 1) := by decide +kernel
theorem dX2_innsBeside_6 : decode cX2_innsBeside 6 = .ok (.getfield 43, 3) := by decide +kernel
theorem dX2_innsBeside_9 : decode cX2_innsBeside 9 = .ok (.iload_n 1, 1) := by decide +kernel
theorem dX2_innsBeside_10 : decode cX2_innsBeside 10 = .ok (.iaload, 1) := by decide +kernel
theorem dX2_innsBeside_11 : decode cX2_innsBeside 11 = .ok (.if_icmp .ge 34, 3) := by decide +kernel
theorem dX2_innsBeside_14 : decode cX2_innsBeside 14 = .ok (.aload_n 0, 1) := by decide +kernel
theorem dX2_innsBeside_15 : decode cX2_innsBeside 15 = .ok (.iload_n 1, 1) := by decide +kernel
theorem dX2_innsBeside_16 : decode cX2_innsBeside 16 = .ok (.iload_n 3, 1) := by decide +kernel
theorem dX2_innsBeside_17 : decode cX2_innsBeside 17 = .ok (.invokevirtual 98, 3) := by decide +kernel
theorem dX2_innsBeside_20 : decode cX2_innsBeside 20 = .ok (.bipush 10, 2) := by decide +kernel
theorem dX2_innsBeside_22 : decode cX2_innsBeside 22 = .ok (.if_icmp .lt 17, 3) := by decide +kernel
theorem dX2_innsBeside_25 : decode cX2_innsBeside 25 = .ok (.iload_n 2, 1) := by decide +kernel
theorem dX2_innsBeside_26 : decode cX2_innsBeside 26 = .ok (.iconst 1, 1) := by decide +kernel
theorem dX2_innsBeside_27 : decode cX2_innsBeside 27 = .ok (.aload_n 0, 1) := by decide +kernel
theorem dX2_innsBeside_28 : decode cX2_innsBeside 28 = .ok (.iload_n 1, 1) := by decide +kernel
theorem dX2_innsBeside_29 : decode cX2_innsBeside 29 = .ok (.iload_n 3, 1) := by decide +kernel
theorem dX2_innsBeside_30 : decode cX2_innsBeside 30 = .ok (.invokevirtual 98, 3) := by decide +kernel
theorem dX2_innsBeside_33 : decode cX2_innsBeside 33 = .ok (.bipush 10, 2) := by decide +kernel
theorem dX2_innsBeside_35 : decode cX2_innsBeside 35 = .ok (.isub, 1) := by decide +kernel
theorem dX2_innsBeside_36 : decode cX2_innsBeside 36 = .ok (.ishl, 1) := by decide +kernel
theorem dX2_innsBeside_37 : decode cX2_innsBeside 37 = .ok (.ior, 1) := by decide +kernel
theorem dX2_innsBeside_38 : decode cX2_innsBeside 38 = .ok (.istore_n 2, 1) := by decide +kernel
theorem dX2_innsBeside_39 : decode cX2_innsBeside 39 = .ok (.iinc 3 1, 3) := by decide +kernel
theorem dX2_innsBeside_42 : decode cX2_innsBeside 42 = .ok (.goto (-38), 3) := by decide +kernel
theorem dX2_innsBeside_45 : decode cX2_innsBeside 45 = .ok (.iload_n 2, 1) := by decide +kernel
theorem dX2_innsBeside_46 : decode cX2_innsBeside 46 = .ok (.ireturn, 1) := by decide +kernel
theorem dX2_postsWithoutRoads_0 : decode cX2_postsWithoutRoads 0 = .ok (.iconst 0, 1) := by decide +kernel
theorem dX2_postsWithoutRoads_1 : decode cX2_postsWithoutRoads 1 = .ok (.istore_n 1, 1) := by decide +kernel
theorem dX2_postsWithoutRoads_2 : decode cX2_postsWithoutRoads 2 = .ok (.iconst 0, 1) := by decide +kernel
theorem dX2_postsWithoutRoads_3 : decode cX2_postsWithoutRoads 3 = .ok (.istore_n 2, 1) := by decide +kernel
theorem dX2_postsWithoutRoads_4 : decode cX2_postsWithoutRoads 4 = .ok (.iload_n 2, 1) := by decide +kernel
theorem dX2_postsWithoutRoads_5 : decode cX2_postsWithoutRoads 5 = .ok (.aload_n 0, 1) := by decide +kernel
theorem dX2_postsWithoutRoads_6 : decode cX2_postsWithoutRoads 6 = .ok (.getfield 27, 3) := by decide +kernel
theorem dX2_postsWithoutRoads_9 : decode cX2_postsWithoutRoads 9 = .ok (.if_icmp .ge 23, 3) := by decide +kernel
theorem dX2_postsWithoutRoads_12 : decode cX2_postsWithoutRoads 12 = .ok (.aload_n 0, 1) := by decide +kernel
theorem dX2_postsWithoutRoads_13 : decode cX2_postsWithoutRoads 13 = .ok (.iload_n 2, 1) := by decide +kernel
theorem dX2_postsWithoutRoads_14 : decode cX2_postsWithoutRoads 14 = .ok (.invokevirtual 102, 3) := by decide +kernel
theorem dX2_postsWithoutRoads_17 : decode cX2_postsWithoutRoads 17 = .ok (.ifCond .ne 9, 3) := by decide +kernel
theorem dX2_postsWithoutRoads_20 : decode cX2_postsWithoutRoads 20 = .ok (.iload_n 1, 1) := by decide +kernel
theorem dX2_postsWithoutRoads_21 : decode cX2_postsWithoutRoads 21 = .ok (.iconst 1, 1) := by decide +kernel
theorem dX2_postsWithoutRoads_22 : decode cX2_postsWithoutRoads 22 = .ok (.iload_n 2, 1) := by decide +kernel
theorem dX2_postsWithoutRoads_23 : decode cX2_postsWithoutRoads 23 = .ok (.ishl, 1) := by decide +kernel
theorem dX2_postsWithoutRoads_24 : decode cX2_postsWithoutRoads 24 = .ok (.ior, 1) := by decide +kernel
theorem dX2_postsWithoutRoads_25 : decode cX2_postsWithoutRoads 25 = .ok (.istore_n 1, 1) := by decide +kernel
theorem dX2_postsWithoutRoads_26 : decode cX2_postsWithoutRoads 26 = .ok (.iinc 2 1, 3) := by decide +kernel
theorem dX2_postsWithoutRoads_29 : decode cX2_postsWithoutRoads 29 = .ok (.goto (-25), 3) := by decide +kernel
theorem dX2_postsWithoutRoads_32 : decode cX2_postsWithoutRoads 32 = .ok (.iload_n 1, 1) := by decide +kernel
theorem dX2_postsWithoutRoads_33 : decode cX2_postsWithoutRoads 33 = .ok (.ireturn, 1) := by decide +kernel
theorem layX2 : ∀ k, k < 16 → u_lay RX2 TX2 k ∈ tblG := fun k hk => match k, hk with
  | 0, _ => gw1 147 (by decide +kernel) (by decide +kernel)
  | 1, _ => gw1 149 (by decide +kernel) (by decide +kernel)
  | 2, _ => gw1 151 (by decide +kernel) (by decide +kernel)
  | 3, _ => gw1 153 (by decide +kernel) (by decide +kernel)
  | 4, _ => gw1 155 (by decide +kernel) (by decide +kernel)
  | 5, _ => gw1 157 (by decide +kernel) (by decide +kernel)
  | 6, _ => gw1 159 (by decide +kernel) (by decide +kernel)
  | 7, _ => gw1 161 (by decide +kernel) (by decide +kernel)
  | 8, _ => gw1 163 (by decide +kernel) (by decide +kernel)
  | 9, _ => gw1 165 (by decide +kernel) (by decide +kernel)
  | 10, _ => gw1 167 (by decide +kernel) (by decide +kernel)
  | 11, _ => gw1 169 (by decide +kernel) (by decide +kernel)
  | 12, _ => gw1 171 (by decide +kernel) (by decide +kernel)
  | 13, _ => gw1 173 (by decide +kernel) (by decide +kernel)
  | 14, _ => gw1 175 (by decide +kernel) (by decide +kernel)
  | 15, _ => gw1 177 (by decide +kernel) (by decide +kernel)
  | k + 16, hk => absurd hk (by omega)
theorem clX2 : CLk 2 RX2 TX2 16 tyX2 := ⟨rfl, fun w hw => by
  obtain ⟨k, hk, rfl⟩ := List.mem_map.mp hw
  exact layX2 k (List.mem_range.mp hk), tyX2_ok, nmX2⟩
theorem wd0 : Cond.fieldLink RX2 9 RX2 "lines" "I" ∈ tblG := gw1 85 (by decide +kernel) (by decide +kernel)
theorem fk_X2_9 : FLk RX2 9 2 0 (.int) false := ⟨RX2, TX2, 16, tyX2, clX2, by decide, rfl, rfl, rfl, Or.inl wd0⟩
theorem wd1 : Cond.fieldLink RX2 24 RX2 "inns" "I" ∈ tblG := gw1 102 (by decide +kernel) (by decide +kernel)
theorem fk_X2_24 : FLk RX2 24 2 4 (.int) false := ⟨RX2, TX2, 16, tyX2, clX2, by decide, rfl, rfl, rfl, Or.inl wd1⟩
theorem wd2 : Cond.fieldLink RX2 27 RX2 "posts" "I" ∈ tblG := gw1 105 (by decide +kernel) (by decide +kernel)
theorem fk_X2_27 : FLk RX2 27 2 5 (.int) false := ⟨RX2, TX2, 16, tyX2, clX2, by decide, rfl, rfl, rfl, Or.inl wd2⟩
theorem wd3 : Cond.fieldLink RX2 36 RX2 "walkers" "I" ∈ tblG := gw1 116 (by decide +kernel) (by decide +kernel)
theorem fk_X2_36 : FLk RX2 36 2 8 (.int) false := ⟨RX2, TX2, 16, tyX2, clX2, by decide, rfl, rfl, rfl, Or.inl wd3⟩
theorem wd4 : Cond.methodLink RX2 91 yX2_isTold ∈ tblG := gw3 130 (by decide +kernel) (by decide +kernel)
theorem wd5 : Cond.instanceMethod yX2_isTold ∈ tblG := gw3 131 (by decide +kernel) (by decide +kernel)
theorem wd6 : Cond.selects RX2 yX2_isTold yX2_isTold ∈ tblG := gw3 132 (by decide +kernel) (by decide +kernel)
theorem wd7 : Cond.initialized RX2 ∈ tblG := gw1 3 (by decide +kernel) (by decide +kernel)
theorem wd8 : Cond.code yX2_isTold cX2_isTold 1 (some .boolean) ∈ tblG := gw3 133 (by decide +kernel) (by decide +kernel)
theorem pl_X2_isTold : Plain yX2_isTold 0 := ⟨by decide, by decide, by decide +kernel⟩
theorem lk_X2_91 : LkV RX2 91 2 yX2_isTold cX2_isTold 1 (some .boolean) 0 := ⟨⟨TX2, 16, rfl⟩, wd4, wd5, wd6, wd7, wd8, pl_X2_isTold⟩
theorem wd9 : Cond.fieldLink RX2 15 RX2 "hours" "I" ∈ tblG := gw1 88 (by decide +kernel) (by decide +kernel)
theorem fk_X2_15 : FLk RX2 15 2 1 (.int) false := ⟨RX2, TX2, 16, tyX2, clX2, by decide, rfl, rfl, rfl, Or.inl wd9⟩
theorem wd10 : Cond.methodLink RX2 95 yX2_hasHour ∈ tblG := gw3 165 (by decide +kernel) (by decide +kernel)
theorem wd11 : Cond.instanceMethod yX2_hasHour ∈ tblG := gw3 127 (by decide +kernel) (by decide +kernel)
theorem wd12 : Cond.selects RX2 yX2_hasHour yX2_hasHour ∈ tblG := gw3 128 (by decide +kernel) (by decide +kernel)
theorem wd13 : Cond.code yX2_hasHour cX2_hasHour 2 (some .boolean) ∈ tblG := gw3 129 (by decide +kernel) (by decide +kernel)
theorem pl_X2_hasHour : Plain yX2_hasHour 1 := ⟨by decide, by decide, by decide +kernel⟩
theorem lk_X2_95 : LkV RX2 95 2 yX2_hasHour cX2_hasHour 2 (some .boolean) 1 := ⟨⟨TX2, 16, rfl⟩, wd10, wd11, wd12, wd7, wd13, pl_X2_hasHour⟩
theorem wd14 : Cond.fieldLink RX2 43 RX2 "roadsOf" "[I" ∈ tblG := gw1 125 (by decide +kernel) (by decide +kernel)
theorem fk_X2_43 : FLk RX2 43 2 10 (.array .int) true := ⟨RX2, TX2, 16, tyX2, clX2, by decide, rfl, rfl, rfl, Or.inl wd14⟩
theorem wd15 : Cond.fieldLink RX2 46 RX2 "goals" "[I" ∈ tblG := gw1 130 (by decide +kernel) (by decide +kernel)
theorem fk_X2_46 : FLk RX2 46 2 11 (.array .int) true := ⟨RX2, TX2, 16, tyX2, clX2, by decide, rfl, rfl, rfl, Or.inl wd15⟩
theorem wd16 : Cond.methodLink RX2 98 yX2_goal ∈ tblG := gw4 7 (by decide +kernel) (by decide +kernel)
theorem wd17 : Cond.instanceMethod yX2_goal ∈ tblG := gw3 70 (by decide +kernel) (by decide +kernel)
theorem wd18 : Cond.selects RX2 yX2_goal yX2_goal ∈ tblG := gw3 71 (by decide +kernel) (by decide +kernel)
theorem wd19 : Cond.code yX2_goal cX2_goal 3 (some .int) ∈ tblG := gw3 72 (by decide +kernel) (by decide +kernel)
theorem pl_X2_goal : Plain yX2_goal 2 := ⟨by decide, by decide, by decide +kernel⟩
theorem lk_X2_98 : LkV RX2 98 2 yX2_goal cX2_goal 3 (some .int) 2 := ⟨⟨TX2, 16, rfl⟩, wd16, wd17, wd18, wd7, wd19, pl_X2_goal⟩
theorem wd20 : Cond.methodLink RX2 102 yX2_hasArm ∈ tblG := gw4 89 (by decide +kernel) (by decide +kernel)
theorem wd21 : Cond.instanceMethod yX2_hasArm ∈ tblG := gw3 33 (by decide +kernel) (by decide +kernel)
theorem wd22 : Cond.selects RX2 yX2_hasArm yX2_hasArm ∈ tblG := gw3 34 (by decide +kernel) (by decide +kernel)
theorem wd23 : Cond.code yX2_hasArm cX2_hasArm 2 (some .boolean) ∈ tblG := gw3 35 (by decide +kernel) (by decide +kernel)
theorem pl_X2_hasArm : Plain yX2_hasArm 1 := ⟨by decide, by decide, by decide +kernel⟩
theorem lk_X2_102 : LkV RX2 102 2 yX2_hasArm cX2_hasArm 2 (some .boolean) 1 := ⟨⟨TX2, 16, rfl⟩, wd20, wd21, wd22, wd7, wd23, pl_X2_hasArm⟩
