theorem dX0_timesTurned_0 : decode cX0_timesTurned 0 = .ok (.aload_n 0, 1) := by decide +kernel
theorem dX0_timesTurned_1 : decode cX0_timesTurned 1 = .ok (.getfield 19, 3) := by decide +kernel
theorem dX0_timesTurned_4 : decode cX0_timesTurned 4 = .ok (.iconst 0, 1) := by decide +kernel
theorem dX0_timesTurned_5 : decode cX0_timesTurned 5 = .ok (.iload_n 1, 1) := by decide +kernel
theorem dX0_timesTurned_6 : decode cX0_timesTurned 6 = .ok (.bipush 16, 2) := by decide +kernel
theorem dX0_timesTurned_8 : decode cX0_timesTurned 8 = .ok (.imul, 1) := by decide +kernel
theorem dX0_timesTurned_9 : decode cX0_timesTurned 9 = .ok (.iadd, 1) := by decide +kernel
theorem dX0_timesTurned_10 : decode cX0_timesTurned 10 = .ok (.iload_n 2, 1) := by decide +kernel
theorem dX0_timesTurned_11 : decode cX0_timesTurned 11 = .ok (.iadd, 1) := by decide +kernel
theorem dX0_timesTurned_12 : decode cX0_timesTurned 12 = .ok (.iaload, 1) := by decide +kernel
theorem dX0_timesTurned_13 : decode cX0_timesTurned 13 = .ok (.ireturn, 1) := by decide +kernel
theorem dX0_isHeld_0 : decode cX0_isHeld 0 = .ok (.aload_n 0, 1) := by decide +kernel
theorem dX0_isHeld_1 : decode cX0_isHeld 1 = .ok (.getfield 19, 3) := by decide +kernel
theorem dX0_isHeld_4 : decode cX0_isHeld 4 = .ok (.bipush 112, 2) := by decide +kernel
theorem dX0_isHeld_6 : decode cX0_isHeld 6 = .ok (.iload_n 1, 1) := by decide +kernel
theorem dX0_isHeld_7 : decode cX0_isHeld 7 = .ok (.bipush 16, 2) := by decide +kernel
theorem dX0_isHeld_9 : decode cX0_isHeld 9 = .ok (.imul, 1) := by decide +kernel
theorem dX0_isHeld_10 : decode cX0_isHeld 10 = .ok (.iadd, 1) := by decide +kernel
theorem dX0_isHeld_11 : decode cX0_isHeld 11 = .ok (.iload_n 2, 1) := by decide +kernel
theorem dX0_isHeld_12 : decode cX0_isHeld 12 = .ok (.iadd, 1) := by decide +kernel
theorem dX0_isHeld_13 : decode cX0_isHeld 13 = .ok (.iaload, 1) := by decide +kernel
theorem dX0_isHeld_14 : decode cX0_isHeld 14 = .ok (.ifCond .le 7, 3) := by decide +kernel
theorem dX0_isHeld_17 : decode cX0_isHeld 17 = .ok (.iconst 1, 1) := by decide +kernel
theorem dX0_isHeld_18 : decode cX0_isHeld 18 = .ok (.goto 4, 3) := by decide +kernel
theorem dX0_isHeld_21 : decode cX0_isHeld 21 = .ok (.iconst 0, 1) := by decide +kernel
theorem dX0_isHeld_22 : decode cX0_isHeld 22 = .ok (.ireturn, 1) := by decide +kernel
theorem dX4_prepare_0 : decode cX4_prepare 0 = .ok (.aload_n 0, 1) := by decide +kernel
theorem dX4_prepare_1 : decode cX4_prepare 1 = .ok (.aload_n 0, 1) := by decide +kernel
theorem dX4_prepare_2 : decode cX4_prepare 2 = .ok (.getfield 37, 3) := by decide +kernel
theorem dX4_prepare_5 : decode cX4_prepare 5 = .ok (.getfield 41, 3) := by decide +kernel
theorem dX4_prepare_8 : decode cX4_prepare 8 = .ok (.putfield 9, 3) := by decide +kernel
theorem dX4_prepare_11 : decode cX4_prepare 11 = .ok (.aload_n 0, 1) := by decide +kernel
theorem dX4_prepare_12 : decode cX4_prepare 12 = .ok (.bipush 127, 2) := by decide +kernel
theorem dX4_prepare_14 : decode cX4_prepare 14 = .ok (.putfield 15, 3) := by decide +kernel
theorem dX4_prepare_17 : decode cX4_prepare 17 = .ok (.aload_n 0, 1) := by decide +kernel
theorem dX4_prepare_18 : decode cX4_prepare 18 = .ok (.iconst 0, 1) := by decide +kernel
theorem dX4_prepare_19 : decode cX4_prepare 19 = .ok (.putfield 18, 3) := by decide +kernel
theorem dX4_prepare_22 : decode cX4_prepare 22 = .ok (.aload_n 0, 1) := by decide +kernel
theorem dX4_prepare_23 : decode cX4_prepare 23 = .ok (.getfield 37, 3) := by decide +kernel
theorem dX4_prepare_26 : decode cX4_prepare 26 = .ok (.getfield 44, 3) := by decide +kernel
theorem dX4_prepare_29 : decode cX4_prepare 29 = .ok (.iconst 0, 1) := by decide +kernel
theorem dX4_prepare_30 : decode cX4_prepare 30 = .ok (.aload_n 0, 1) := by decide +kernel
theorem dX4_prepare_31 : decode cX4_prepare 31 = .ok (.getfield 21, 3) := by decide +kernel
theorem dX4_prepare_34 : decode cX4_prepare 34 = .ok (.iconst 0, 1) := by decide +kernel
theorem dX4_prepare_35 : decode cX4_prepare 35 = .ok (.bipush 8, 2) := by decide +kernel
theorem dX4_prepare_37 : decode cX4_prepare 37 = .ok (.invokestatic 45, 3) := by decide +kernel
theorem dX4_prepare_40 : decode cX4_prepare 40 = .ok (.aload_n 0, 1) := by decide +kernel
theorem dX4_prepare_41 : decode cX4_prepare 41 = .ok (.getfield 37, 3) := by decide +kernel
theorem dX4_prepare_44 : decode cX4_prepare 44 = .ok (.getfield 51, 3) := by decide +kernel
theorem dX4_prepare_47 : decode cX4_prepare 47 = .ok (.iconst 0, 1) := by decide +kernel
theorem dX4_prepare_48 : decode cX4_prepare 48 = .ok (.aload_n 0, 1) := by decide +kernel
theorem dX4_prepare_49 : decode cX4_prepare 49 = .ok (.getfield 28, 3) := by decide +kernel
theorem dX4_prepare_52 : decode cX4_prepare 52 = .ok (.iconst 0, 1) := by decide +kernel
theorem dX4_prepare_53 : decode cX4_prepare 53 = .ok (.bipush 7, 2) := by decide +kernel
theorem dX4_prepare_55 : decode cX4_prepare 55 = .ok (.invokestatic 45, 3) := by decide +kernel
theorem dX4_prepare_58 : decode cX4_prepare 58 = .ok (.return_, 1) := by decide +kernel
theorem dX4_neverComes_0 : decode cX4_neverComes 0 = .ok (.aload_n 0, 1) := by decide +kernel
theorem dX4_neverComes_1 : decode cX4_neverComes 1 = .ok (.getfield 21, 3) := by decide +kernel
theorem dX4_neverComes_4 : decode cX4_neverComes 4 = .ok (.iload_n 1, 1) := by decide +kernel
theorem dX4_neverComes_5 : decode cX4_neverComes 5 = .ok (.bipush 17, 2) := by decide +kernel
theorem dX4_neverComes_7 : decode cX4_neverComes 7 = .ok (.iastore, 1) := by decide +kernel
theorem dX4_neverComes_8 : decode cX4_neverComes 8 = .ok (.return_, 1) := by decide +kernel
theorem dX4_pointAtFirst_0 : decode cX4_pointAtFirst 0 = .ok (.aload_n 0, 1) := by decide +kernel
theorem dX4_pointAtFirst_1 : decode cX4_pointAtFirst 1 = .ok (.getfield 28, 3) := by decide +kernel
theorem dX4_pointAtFirst_4 : decode cX4_pointAtFirst 4 = .ok (.iload_n 1, 1) := by decide +kernel
theorem dX4_pointAtFirst_5 : decode cX4_pointAtFirst 5 = .ok (.iload_n 2, 1) := by decide +kernel
theorem dX4_pointAtFirst_6 : decode cX4_pointAtFirst 6 = .ok (.iastore, 1) := by decide +kernel
theorem dX4_pointAtFirst_7 : decode cX4_pointAtFirst 7 = .ok (.return_, 1) := by decide +kernel
theorem dX4_run_0 : decode cX4_run 0 = .ok (.aload_n 0, 1) := by decide +kernel
theorem dX4_run_1 : decode cX4_run 1 = .ok (.invokevirtual 54, 3) := by decide +kernel
theorem dX4_run_4 : decode cX4_run 4 = .ok (.iconst 0, 1) := by decide +kernel
theorem dX4_run_5 : decode cX4_run 5 = .ok (.istore_n 1, 1) := by decide +kernel
theorem dX4_run_6 : decode cX4_run 6 = .ok (.iload_n 1, 1) := by decide +kernel
theorem dX4_run_7 : decode cX4_run 7 = .ok (.aload_n 0, 1) := by decide +kernel
theorem dX4_run_8 : decode cX4_run 8 = .ok (.getfield 37, 3) := by decide +kernel
theorem dX4_run_11 : decode cX4_run 11 = .ok (.getfield 57, 3) := by decide +kernel
theorem dX4_run_14 : decode cX4_run 14 = .ok (.if_icmp .ge 14, 3) := by decide +kernel
theorem dX4_run_17 : decode cX4_run 17 = .ok (.aload_n 0, 1) := by decide +kernel
theorem dX4_run_18 : decode cX4_run 18 = .ok (.iload_n 1, 1) := by decide +kernel
theorem dX4_run_19 : decode cX4_run 19 = .ok (.invokevirtual 60, 3) := by decide +kernel
theorem dX4_run_22 : decode cX4_run 22 = .ok (.iinc 1 1, 3) := by decide +kernel
theorem dX4_run_25 : decode cX4_run 25 = .ok (.goto (-19), 3) := by decide +kernel
theorem dX4_run_28 : decode cX4_run 28 = .ok (.return_, 1) := by decide +kernel
theorem dX4_begin_0 : decode cX4_begin 0 = .ok (.iconst 0, 1) := by decide +kernel
theorem dX4_begin_1 : decode cX4_begin 1 = .ok (.istore_n 1, 1) := by decide +kernel
theorem dX4_begin_2 : decode cX4_begin 2 = .ok (.iload_n 1, 1) := by decide +kernel
theorem dX4_begin_3 : decode cX4_begin 3 = .ok (.aload_n 0, 1) := by decide +kernel
theorem dX4_begin_4 : decode cX4_begin 4 = .ok (.getfield 37, 3) := by decide +kernel
theorem dX4_begin_7 : decode cX4_begin 7 = .ok (.getfield 64, 3) := by decide +kernel
theorem dX4_begin_10 : decode cX4_begin 10 = .ok (.if_icmp .ge 37, 3) := by decide +kernel
theorem dX4_begin_13 : decode cX4_begin 13 = .ok (.aload_n 0, 1) := by decide +kernel
theorem dX4_begin_14 : decode cX4_begin 14 = .ok (.getfield 25, 3) := by decide +kernel
theorem dX4_begin_17 : decode cX4_begin 17 = .ok (.iload_n 1, 1) := by decide +kernel
theorem dX4_begin_18 : decode cX4_begin 18 = .ok (.aload_n 0, 1) := by decide +kernel
theorem dX4_begin_19 : decode cX4_begin 19 = .ok (.getfield 21, 3) := by decide +kernel
theorem dX4_begin_22 : decode cX4_begin 22 = .ok (.iload_n 1, 1) := by decide +kernel
theorem dX4_begin_23 : decode cX4_begin 23 = .ok (.iaload, 1) := by decide +kernel
theorem dX4_begin_24 : decode cX4_begin 24 = .ok (.ifCond .ne 15, 3) := by decide +kernel
theorem dX4_begin_27 : decode cX4_begin 27 = .ok (.aload_n 0, 1) := by decide +kernel
theorem dX4_begin_28 : decode cX4_begin 28 = .ok (.getfield 37, 3) := by decide +kernel
theorem dX4_begin_31 : decode cX4_begin 31 = .ok (.getfield 67, 3) := by decide +kernel
theorem dX4_begin_34 : decode cX4_begin 34 = .ok (.iload_n 1, 1) := by decide +kernel
theorem dX4_begin_35 : decode cX4_begin 35 = .ok (.iaload, 1) := by decide +kernel
theorem dX4_begin_36 : decode cX4_begin 36 = .ok (.goto 4, 3) := by decide +kernel
theorem dX4_begin_39 : decode cX4_begin 39 = .ok (.iconst (-1), 1) := by decide +kernel
theorem dX4_begin_40 : decode cX4_begin 40 = .ok (.iastore, 1) := by decide +kernel
theorem dX4_begin_41 : decode cX4_begin 41 = .ok (.iinc 1 1, 3) := by decide +kernel
theorem dX4_begin_44 : decode cX4_begin 44 = .ok (.goto (-42), 3) := by decide +kernel
theorem dX4_begin_47 : decode cX4_begin 47 = .ok (.return_, 1) := by decide +kernel
theorem dX4_passHour_0 : decode cX4_passHour 0 = .ok (.aload_n 0, 1) := by decide +kernel
theorem dX4_passHour_1 : decode cX4_passHour 1 = .ok (.getfield 28, 3) := by decide +kernel
theorem dX4_passHour_4 : decode cX4_passHour 4 = .ok (.iload_n 1, 1) := by decide +kernel
theorem dX4_passHour_5 : decode cX4_passHour 5 = .ok (.bipush 7, 2) := by decide +kernel
theorem dX4_passHour_7 : decode cX4_passHour 7 = .ok (.imul, 1) := by decide +kernel
theorem dX4_passHour_8 : decode cX4_passHour 8 = .ok (.aload_n 0, 1) := by decide +kernel
theorem dX4_passHour_9 : decode cX4_passHour 9 = .ok (.getfield 28, 3) := by decide +kernel
theorem dX4_passHour_12 : decode cX4_passHour 12 = .ok (.iload_n 1, 1) := by decide +kernel
theorem dX4_passHour_13 : decode cX4_passHour 13 = .ok (.iconst 1, 1) := by decide +kernel
theorem dX4_passHour_14 : decode cX4_passHour 14 = .ok (.iadd, 1) := by decide +kernel
theorem dX4_passHour_15 : decode cX4_passHour 15 = .ok (.bipush 7, 2) := by decide +kernel
theorem dX4_passHour_17 : decode cX4_passHour 17 = .ok (.imul, 1) := by decide +kernel
theorem dX4_passHour_18 : decode cX4_passHour 18 = .ok (.bipush 7, 2) := by decide +kernel
theorem dX4_passHour_20 : decode cX4_passHour 20 = .ok (.invokestatic 45, 3) := by decide +kernel
theorem dX4_passHour_23 : decode cX4_passHour 23 = .ok (.aload_n 0, 1) := by decide +kernel
theorem dX4_passHour_24 : decode cX4_passHour 24 = .ok (.iload_n 1, 1) := by decide +kernel
theorem dX4_passHour_25 : decode cX4_passHour 25 = .ok (.invokevirtual 70, 3) := by decide +kernel
theorem dX4_passHour_28 : decode cX4_passHour 28 = .ok (.aload_n 0, 1) := by decide +kernel
theorem dX4_passHour_29 : decode cX4_passHour 29 = .ok (.iload_n 1, 1) := by decide +kernel
theorem dX4_passHour_30 : decode cX4_passHour 30 = .ok (.invokevirtual 73, 3) := by decide +kernel
theorem dX4_passHour_33 : decode cX4_passHour 33 = .ok (.iconst 0, 1) := by decide +kernel
theorem dX4_passHour_34 : decode cX4_passHour 34 = .ok (.istore_n 2, 1) := by decide +kernel
theorem dX4_passHour_35 : decode cX4_passHour 35 = .ok (.iload_n 2, 1) := by decide +kernel
theorem dX4_passHour_36 : decode cX4_passHour 36 = .ok (.aload_n 0, 1) := by decide +kernel
theorem dX4_passHour_37 : decode cX4_passHour 37 = .ok (.getfield 37, 3) := by decide +kernel
theorem dX4_passHour_40 : decode cX4_passHour 40 = .ok (.getfield 64, 3) := by decide +kernel
theorem dX4_passHour_43 : decode cX4_passHour 43 = .ok (.if_icmp .ge 33, 3) := by decide +kernel
theorem dX4_passHour_46 : decode cX4_passHour 46 = .ok (.aload_n 0, 1) := by decide +kernel
theorem dX4_passHour_47 : decode cX4_passHour 47 = .ok (.iload_n 2, 1) := by decide +kernel
theorem dX4_passHour_48 : decode cX4_passHour 48 = .ok (.iload_n 1, 1) := by decide +kernel
theorem dX4_passHour_49 : decode cX4_passHour 49 = .ok (.invokevirtual 76, 3) := by decide +kernel
theorem dX4_passHour_52 : decode cX4_passHour 52 = .ok (.ifCond .eq 12, 3) := by decide +kernel
theorem dX4_passHour_55 : decode cX4_passHour 55 = .ok (.aload_n 0, 1) := by decide +kernel
theorem dX4_passHour_56 : decode cX4_passHour 56 = .ok (.iload_n 2, 1) := by decide +kernel
theorem dX4_passHour_57 : decode cX4_passHour 57 = .ok (.iload_n 1, 1) := by decide +kernel
theorem dX4_passHour_58 : decode cX4_passHour 58 = .ok (.invokevirtual 80, 3) := by decide +kernel
theorem dX4_passHour_61 : decode cX4_passHour 61 = .ok (.goto 9, 3) := by decide +kernel
theorem dX4_passHour_64 : decode cX4_passHour 64 = .ok (.aload_n 0, 1) := by decide +kernel
theorem dX4_passHour_65 : decode cX4_passHour 65 = .ok (.iload_n 2, 1) := by decide +kernel
theorem dX4_passHour_66 : decode cX4_passHour 66 = .ok (.iload_n 1, 1) := by decide +kernel
theorem dX4_passHour_67 : decode cX4_passHour 67 = .ok (.invokevirtual 84, 3) := by decide +kernel
theorem dX4_passHour_70 : decode cX4_passHour 70 = .ok (.iinc 2 1, 3) := by decide +kernel
theorem dX4_passHour_73 : decode cX4_passHour 73 = .ok (.goto (-38), 3) := by decide +kernel
theorem dX4_passHour_76 : decode cX4_passHour 76 = .ok (.return_, 1) := by decide +kernel
theorem dX4_turnByActs_0 : decode cX4_turnByActs 0 = .ok (.iconst 0, 1) := by decide +kernel
theorem dX4_turnByActs_1 : decode cX4_turnByActs 1 = .ok (.istore_n 2, 1) := by decide +kernel
theorem dX4_turnByActs_2 : decode cX4_turnByActs 2 = .ok (.iload_n 2, 1) := by decide +kernel
theorem dX4_turnByActs_3 : decode cX4_turnByActs 3 = .ok (.aload_n 0, 1) := by decide +kernel
theorem dX4_turnByActs_4 : decode cX4_turnByActs 4 = .ok (.getfield 37, 3) := by decide +kernel
theorem dX4_turnByActs_7 : decode cX4_turnByActs 7 = .ok (.getfield 87, 3) := by decide +kernel
theorem dX4_turnByActs_10 : decode cX4_turnByActs 10 = .ok (.if_icmp .ge 84, 3) := by decide +kernel
theorem dX4_turnByActs_13 : decode cX4_turnByActs 13 = .ok (.aload_n 0, 1) := by decide +kernel
theorem dX4_turnByActs_14 : decode cX4_turnByActs 14 = .ok (.getfield 37, 3) := by decide +kernel
theorem dX4_turnByActs_17 : decode cX4_turnByActs 17 = .ok (.iload_n 2, 1) := by decide +kernel
theorem dX4_turnByActs_18 : decode cX4_turnByActs 18 = .ok (.invokevirtual 90, 3) := by decide +kernel
theorem dX4_turnByActs_21 : decode cX4_turnByActs 21 = .ok (.ifCond .eq 18, 3) := by decide +kernel
theorem dX4_turnByActs_24 : decode cX4_turnByActs 24 = .ok (.aload_n 0, 1) := by decide +kernel
theorem dX4_turnByActs_25 : decode cX4_turnByActs 25 = .ok (.getfield 37, 3) := by decide +kernel
theorem dX4_turnByActs_28 : decode cX4_turnByActs 28 = .ok (.getfield 94, 3) := by decide +kernel
theorem dX4_turnByActs_31 : decode cX4_turnByActs 31 = .ok (.iload_n 2, 1) := by decide +kernel
theorem dX4_turnByActs_32 : decode cX4_turnByActs 32 = .ok (.iload_n 1, 1) := by decide +kernel
theorem dX4_turnByActs_33 : decode cX4_turnByActs 33 = .ok (.invokevirtual 98, 3) := by decide +kernel
theorem dX4_turnByActs_36 : decode cX4_turnByActs 36 = .ok (.goto 4, 3) := by decide +kernel
theorem dX4_turnByActs_39 : decode cX4_turnByActs 39 = .ok (.iconst 0, 1) := by decide +kernel
theorem dX4_turnByActs_40 : decode cX4_turnByActs 40 = .ok (.istore_n 3, 1) := by decide +kernel
theorem dX4_turnByActs_41 : decode cX4_turnByActs 41 = .ok (.iconst 0, 1) := by decide +kernel
theorem dX4_turnByActs_42 : decode cX4_turnByActs 42 = .ok (.istore 4, 2) := by decide +kernel
theorem dX4_turnByActs_44 : decode cX4_turnByActs 44 = .ok (.iload 4, 2) := by decide +kernel
theorem dX4_turnByActs_46 : decode cX4_turnByActs 46 = .ok (.iload_n 3, 1) := by decide +kernel
theorem dX4_turnByActs_47 : decode cX4_turnByActs 47 = .ok (.if_icmp .ge 41, 3) := by decide +kernel
theorem dX4_turnByActs_50 : decode cX4_turnByActs 50 = .ok (.iload_n 1, 1) := by decide +kernel
theorem dX4_turnByActs_51 : decode cX4_turnByActs 51 = .ok (.iconst 1, 1) := by decide +kernel
theorem dX4_turnByActs_52 : decode cX4_turnByActs 52 = .ok (.iadd, 1) := by decide +kernel
theorem dX4_turnByActs_53 : decode cX4_turnByActs 53 = .ok (.bipush 7, 2) := by decide +kernel
theorem dX4_turnByActs_55 : decode cX4_turnByActs 55 = .ok (.imul, 1) := by decide +kernel
theorem dX4_turnByActs_56 : decode cX4_turnByActs 56 = .ok (.iload_n 2, 1) := by decide +kernel
theorem dX4_turnByActs_57 : decode cX4_turnByActs 57 = .ok (.iadd, 1) := by decide +kernel
theorem dX4_turnByActs_58 : decode cX4_turnByActs 58 = .ok (.istore 5, 2) := by decide +kernel
theorem dX4_turnByActs_60 : decode cX4_turnByActs 60 = .ok (.aload_n 0, 1) := by decide +kernel
theorem dX4_turnByActs_61 : decode cX4_turnByActs 61 = .ok (.getfield 28, 3) := by decide +kernel
theorem dX4_turnByActs_64 : decode cX4_turnByActs 64 = .ok (.iload 5, 2) := by decide +kernel
theorem dX4_turnByActs_66 : decode cX4_turnByActs 66 = .ok (.aload_n 0, 1) := by decide +kernel
theorem dX4_turnByActs_67 : decode cX4_turnByActs 67 = .ok (.getfield 37, 3) := by decide +kernel
theorem dX4_turnByActs_70 : decode cX4_turnByActs 70 = .ok (.iload_n 2, 1) := by decide +kernel
theorem dX4_turnByActs_71 : decode cX4_turnByActs 71 = .ok (.aload_n 0, 1) := by decide +kernel
theorem dX4_turnByActs_72 : decode cX4_turnByActs 72 = .ok (.getfield 28, 3) := by decide +kernel
theorem dX4_turnByActs_75 : decode cX4_turnByActs 75 = .ok (.iload 5, 2) := by decide +kernel
theorem dX4_turnByActs_77 : decode cX4_turnByActs 77 = .ok (.iaload, 1) := by decide +kernel
theorem dX4_turnByActs_78 : decode cX4_turnByActs 78 = .ok (.invokevirtual 104, 3) := by decide +kernel
theorem dX4_turnByActs_81 : decode cX4_turnByActs 81 = .ok (.iastore, 1) := by decide +kernel
theorem dX4_turnByActs_82 : decode cX4_turnByActs 82 = .ok (.iinc 4 1, 3) := by decide +kernel
theorem dX4_turnByActs_85 : decode cX4_turnByActs 85 = .ok (.goto (-41), 3) := by decide +kernel
theorem dX4_turnByActs_88 : decode cX4_turnByActs 88 = .ok (.iinc 2 1, 3) := by decide +kernel
theorem dX4_turnByActs_91 : decode cX4_turnByActs 91 = .ok (.goto (-89), 3) := by decide +kernel
theorem dX4_turnByActs_94 : decode cX4_turnByActs 94 = .ok (.return_, 1) := by decide +kernel
theorem dX4_countGuests_0 : decode cX4_countGuests 0 = .ok (.aload_n 0, 1) := by decide +kernel
theorem dX4_countGuests_1 : decode cX4_countGuests 1 = .ok (.getfield 34, 3) := by decide +kernel
theorem dX4_countGuests_4 : decode cX4_countGuests 4 = .ok (.iconst 0, 1) := by decide +kernel
theorem dX4_countGuests_5 : decode cX4_countGuests 5 = .ok (.invokestatic 107, 3) := by decide +kernel
theorem dX4_countGuests_8 : decode cX4_countGuests 8 = .ok (.iconst 0, 1) := by decide +kernel
theorem dX4_countGuests_9 : decode cX4_countGuests 9 = .ok (.istore_n 2, 1) := by decide +kernel
theorem dX4_countGuests_10 : decode cX4_countGuests 10 = .ok (.iload_n 2, 1) := by decide +kernel
theorem dX4_countGuests_11 : decode cX4_countGuests 11 = .ok (.aload_n 0, 1) := by decide +kernel
theorem dX4_countGuests_12 : decode cX4_countGuests 12 = .ok (.getfield 37, 3) := by decide +kernel
theorem dX4_countGuests_15 : decode cX4_countGuests 15 = .ok (.getfield 64, 3) := by decide +kernel
theorem dX4_countGuests_18 : decode cX4_countGuests 18 = .ok (.if_icmp .ge 35, 3) := by decide +kernel
theorem dX4_countGuests_21 : decode cX4_countGuests 21 = .ok (.aload_n 0, 1) := by decide +kernel
theorem dX4_countGuests_22 : decode cX4_countGuests 22 = .ok (.iload_n 2, 1) := by decide +kernel
theorem dX4_countGuests_23 : decode cX4_countGuests 23 = .ok (.iload_n 1, 1) := by decide +kernel
theorem dX4_countGuests_24 : decode cX4_countGuests 24 = .ok (.invokevirtual 113, 3) := by decide +kernel
theorem dX4_countGuests_27 : decode cX4_countGuests 27 = .ok (.istore_n 3, 1) := by decide +kernel
theorem dX4_countGuests_28 : decode cX4_countGuests 28 = .ok (.iload_n 3, 1) := by decide +kernel
theorem dX4_countGuests_29 : decode cX4_countGuests 29 = .ok (.bipush 10, 2) := by decide +kernel
theorem dX4_countGuests_31 : decode cX4_countGuests 31 = .ok (.if_icmp .lt 16, 3) := by decide +kernel
theorem dX4_countGuests_34 : decode cX4_countGuests 34 = .ok (.aload_n 0, 1) := by decide +kernel
theorem dX4_countGuests_35 : decode cX4_countGuests 35 = .ok (.getfield 34, 3) := by decide +kernel
theorem dX4_countGuests_38 : decode cX4_countGuests 38 = .ok (.iload_n 3, 1) := by decide +kernel
theorem dX4_countGuests_39 : decode cX4_countGuests 39 = .ok (.bipush 10, 2) := by decide +kernel
theorem dX4_countGuests_41 : decode cX4_countGuests 41 = .ok (.isub, 1) := by decide +kernel
theorem dX4_countGuests_42 : decode cX4_countGuests 42 = .ok (.dup2, 1) := by decide +kernel
theorem dX4_countGuests_43 : decode cX4_countGuests 43 = .ok (.iaload, 1) := by decide +kernel
theorem dX4_countGuests_44 : decode cX4_countGuests 44 = .ok (.iconst 1, 1) := by decide +kernel
theorem dX4_countGuests_45 : decode cX4_countGuests 45 = .ok (.iadd, 1) := by decide +kernel
theorem dX4_countGuests_46 : decode cX4_countGuests 46 = .ok (.iastore, 1) := by decide +kernel
theorem dX4_countGuests_47 : decode cX4_countGuests 47 = .ok (.iinc 2 1, 3) := by decide +kernel
theorem dX4_countGuests_50 : decode cX4_countGuests 50 = .ok (.goto (-40), 3) := by decide +kernel
theorem dX4_countGuests_53 : decode cX4_countGuests 53 = .ok (.return_, 1) := by decide +kernel
theorem dX4_isSentFrom_0 : decode cX4_isSentFrom 0 = .ok (.aload_n 0, 1) := by decide +kernel
theorem dX4_isSentFrom_1 : decode cX4_isSentFrom 1 = .ok (.iload_n 1, 1) := by decide +kernel
theorem dX4_isSentFrom_2 : decode cX4_isSentFrom 2 = .ok (.iload_n 2, 1) := by decide +kernel
theorem dX4_isSentFrom_3 : decode cX4_isSentFrom 3 = .ok (.invokevirtual 113, 3) := by decide +kernel
theorem dX4_isSentFrom_6 : decode cX4_isSentFrom 6 = .ok (.istore_n 3, 1) := by decide +kernel
theorem dX4_isSentFrom_7 : decode cX4_isSentFrom 7 = .ok (.iload_n 3, 1) := by decide +kernel
theorem dX4_isSentFrom_8 : decode cX4_isSentFrom 8 = .ok (.iconst (-1), 1) := by decide +kernel
theorem dX4_isSentFrom_9 : decode cX4_isSentFrom 9 = .ok (.if_icmp .eq 20, 3) := by decide +kernel
theorem dX4_isSentFrom_12 : decode cX4_isSentFrom 12 = .ok (.iload_n 3, 1) := by decide +kernel
theorem dX4_isSentFrom_13 : decode cX4_isSentFrom 13 = .ok (.bipush 10, 2) := by decide +kernel
theorem dX4_isSentFrom_15 : decode cX4_isSentFrom 15 = .ok (.if_icmp .ge 14, 3) := by decide +kernel
theorem dX4_isSentFrom_18 : decode cX4_isSentFrom 18 = .ok (.aload_n 0, 1) := by decide +kernel
theorem dX4_isSentFrom_19 : decode cX4_isSentFrom 19 = .ok (.getfield 37, 3) := by decide +kernel
theorem dX4_isSentFrom_22 : decode cX4_isSentFrom 22 = .ok (.iload_n 3, 1) := by decide +kernel
theorem dX4_isSentFrom_23 : decode cX4_isSentFrom 23 = .ok (.invokevirtual 90, 3) := by decide +kernel
theorem dX4_isSentFrom_26 : decode cX4_isSentFrom 26 = .ok (.ifCond .ne 5, 3) := by decide +kernel
theorem dX4_isSentFrom_29 : decode cX4_isSentFrom 29 = .ok (.iconst 0, 1) := by decide +kernel
theorem dX4_isSentFrom_30 : decode cX4_isSentFrom 30 = .ok (.ireturn, 1) := by decide +kernel
theorem dX4_isSentFrom_31 : decode cX4_isSentFrom 31 = .ok (.aload_n 0, 1) := by decide +kernel
theorem dX4_isSentFrom_32 : decode cX4_isSentFrom 32 = .ok (.getfield 18, 3) := by decide +kernel
theorem dX4_isSentFrom_35 : decode cX4_isSentFrom 35 = .ok (.iload_n 2, 1) := by decide +kernel
theorem dX4_isSentFrom_36 : decode cX4_isSentFrom 36 = .ok (.ishr, 1) := by decide +kernel
theorem dX4_isSentFrom_37 : decode cX4_isSentFrom 37 = .ok (.iconst 1, 1) := by decide +kernel
theorem dX4_isSentFrom_38 : decode cX4_isSentFrom 38 = .ok (.iand, 1) := by decide +kernel
theorem dX4_isSentFrom_39 : decode cX4_isSentFrom 39 = .ok (.ifCond .ne 22, 3) := by decide +kernel
theorem dX4_isSentFrom_42 : decode cX4_isSentFrom 42 = .ok (.aload_n 0, 1) := by decide +kernel
theorem dX4_isSentFrom_43 : decode cX4_isSentFrom 43 = .ok (.getfield 37, 3) := by decide +kernel
theorem dX4_isSentFrom_46 : decode cX4_isSentFrom 46 = .ok (.getfield 94, 3) := by decide +kernel
theorem dX4_isSentFrom_49 : decode cX4_isSentFrom 49 = .ok (.iload_n 1, 1) := by decide +kernel
theorem dX4_isSentFrom_50 : decode cX4_isSentFrom 50 = .ok (.iload_n 2, 1) := by decide +kernel
theorem dX4_isSentFrom_51 : decode cX4_isSentFrom 51 = .ok (.invokevirtual 116, 3) := by decide +kernel
theorem dX4_isSentFrom_54 : decode cX4_isSentFrom 54 = .ok (.ifCond .ne 7, 3) := by decide +kernel
theorem dX4_isSentFrom_57 : decode cX4_isSentFrom 57 = .ok (.iconst 1, 1) := by decide +kernel
theorem dX4_isSentFrom_58 : decode cX4_isSentFrom 58 = .ok (.goto 4, 3) := by decide +kernel
theorem dX4_isSentFrom_61 : decode cX4_isSentFrom 61 = .ok (.iconst 0, 1) := by decide +kernel
theorem dX4_isSentFrom_62 : decode cX4_isSentFrom 62 = .ok (.ireturn, 1) := by decide +kernel
theorem dX4_stayOn_0 : decode cX4_stayOn 0 = .ok (.aload_n 0, 1) := by decide +kernel
theorem dX4_stayOn_1 : decode cX4_stayOn 1 = .ok (.iload_n 1, 1) := by decide +kernel
theorem dX4_stayOn_2 : decode cX4_stayOn 2 = .ok (.iload_n 2, 1) := by decide +kernel
theorem dX4_stayOn_3 : decode cX4_stayOn 3 = .ok (.invokevirtual 113, 3) := by decide +kernel
theorem dX4_stayOn_6 : decode cX4_stayOn 6 = .ok (.istore_n 3, 1) := by decide +kernel
theorem dX4_stayOn_7 : decode cX4_stayOn 7 = .ok (.iload_n 3, 1) := by decide +kernel
theorem dX4_stayOn_8 : decode cX4_stayOn 8 = .ok (.iconst (-1), 1) := by decide +kernel
theorem dX4_stayOn_9 : decode cX4_stayOn 9 = .ok (.if_icmp .ne 25, 3) := by decide +kernel
theorem dX4_stayOn_12 : decode cX4_stayOn 12 = .ok (.aload_n 0, 1) := by decide +kernel
theorem dX4_stayOn_13 : decode cX4_stayOn 13 = .ok (.getfield 21, 3) := by decide +kernel
theorem dX4_stayOn_16 : decode cX4_stayOn 16 = .ok (.iload_n 1, 1) := by decide +kernel
theorem dX4_stayOn_17 : decode cX4_stayOn 17 = .ok (.iaload, 1) := by decide +kernel
theorem dX4_stayOn_18 : decode cX4_stayOn 18 = .ok (.iload_n 2, 1) := by decide +kernel
theorem dX4_stayOn_19 : decode cX4_stayOn 19 = .ok (.iconst 1, 1) := by decide +kernel
theorem dX4_stayOn_20 : decode cX4_stayOn 20 = .ok (.iadd, 1) := by decide +kernel
theorem dX4_stayOn_21 : decode cX4_stayOn 21 = .ok (.if_icmp .ne 13, 3) := by decide +kernel
theorem dX4_stayOn_24 : decode cX4_stayOn 24 = .ok (.aload_n 0, 1) := by decide +kernel
theorem dX4_stayOn_25 : decode cX4_stayOn 25 = .ok (.getfield 37, 3) := by decide +kernel
theorem dX4_stayOn_28 : decode cX4_stayOn 28 = .ok (.getfield 67, 3) := by decide +kernel
theorem dX4_stayOn_31 : decode cX4_stayOn 31 = .ok (.iload_n 1, 1) := by decide +kernel
theorem dX4_stayOn_32 : decode cX4_stayOn 32 = .ok (.iaload, 1) := by decide +kernel
theorem dX4_stayOn_33 : decode cX4_stayOn 33 = .ok (.istore_n 3, 1) := by decide +kernel
theorem dX4_stayOn_34 : decode cX4_stayOn 34 = .ok (.aload_n 0, 1) := by decide +kernel
theorem dX4_stayOn_35 : decode cX4_stayOn 35 = .ok (.getfield 31, 3) := by decide +kernel
theorem dX4_stayOn_38 : decode cX4_stayOn 38 = .ok (.iload_n 2, 1) := by decide +kernel
theorem dX4_stayOn_39 : decode cX4_stayOn 39 = .ok (.bipush 8, 2) := by decide +kernel
theorem dX4_stayOn_41 : decode cX4_stayOn 41 = .ok (.imul, 1) := by decide +kernel
theorem dX4_stayOn_42 : decode cX4_stayOn 42 = .ok (.iload_n 1, 1) := by decide +kernel
theorem dX4_stayOn_43 : decode cX4_stayOn 43 = .ok (.iadd, 1) := by decide +kernel
theorem dX4_stayOn_44 : decode cX4_stayOn 44 = .ok (.iconst (-1), 1) := by decide +kernel
theorem dX4_stayOn_45 : decode cX4_stayOn 45 = .ok (.iastore, 1) := by decide +kernel
theorem dX4_stayOn_46 : decode cX4_stayOn 46 = .ok (.aload_n 0, 1) := by decide +kernel
theorem dX4_stayOn_47 : decode cX4_stayOn 47 = .ok (.getfield 25, 3) := by decide +kernel
theorem dX4_stayOn_50 : decode cX4_stayOn 50 = .ok (.iload_n 2, 1) := by decide +kernel
theorem dX4_stayOn_51 : decode cX4_stayOn 51 = .ok (.iconst 1, 1) := by decide +kernel
theorem dX4_stayOn_52 : decode cX4_stayOn 52 = .ok (.iadd, 1) := by decide +kernel
theorem dX4_stayOn_53 : decode cX4_stayOn 53 = .ok (.bipush 8, 2) := by decide +kernel
theorem dX4_stayOn_55 : decode cX4_stayOn 55 = .ok (.imul, 1) := by decide +kernel
theorem dX4_stayOn_56 : decode cX4_stayOn 56 = .ok (.iload_n 1, 1) := by decide +kernel
theorem dX4_stayOn_57 : decode cX4_stayOn 57 = .ok (.iadd, 1) := by decide +kernel
theorem dX4_stayOn_58 : decode cX4_stayOn 58 = .ok (.iload_n 3, 1) := by decide +kernel
theorem dX4_stayOn_59 : decode cX4_stayOn 59 = .ok (.iastore, 1) := by decide +kernel
theorem dX4_stayOn_60 : decode cX4_stayOn 60 = .ok (.return_, 1) := by decide +kernel
theorem dX4_sendOn_0 : decode cX4_sendOn 0 = .ok (.aload_n 0, 1) := by decide +kernel
theorem dX4_sendOn_1 : decode cX4_sendOn 1 = .ok (.iload_n 1, 1) := by decide +kernel
theorem dX4_sendOn_2 : decode cX4_sendOn 2 = .ok (.iload_n 2, 1) := by decide +kernel
theorem dX4_sendOn_3 : decode cX4_sendOn 3 = .ok (.invokevirtual 113, 3) := by decide +kernel
theorem dX4_sendOn_6 : decode cX4_sendOn 6 = .ok (.istore_n 3, 1) := by decide +kernel
theorem dX4_sendOn_7 : decode cX4_sendOn 7 = .ok (.aload_n 0, 1) := by decide +kernel
theorem dX4_sendOn_8 : decode cX4_sendOn 8 = .ok (.getfield 15, 3) := by decide +kernel
theorem dX4_sendOn_11 : decode cX4_sendOn 11 = .ok (.iload_n 3, 1) := by decide +kernel
theorem dX4_sendOn_12 : decode cX4_sendOn 12 = .ok (.ishr, 1) := by decide +kernel
theorem dX4_sendOn_13 : decode cX4_sendOn 13 = .ok (.iconst 1, 1) := by decide +kernel
theorem dX4_sendOn_14 : decode cX4_sendOn 14 = .ok (.iand, 1) := by decide +kernel
theorem dX4_sendOn_15 : decode cX4_sendOn 15 = .ok (.ifCond .ne 7, 3) := by decide +kernel
theorem dX4_sendOn_18 : decode cX4_sendOn 18 = .ok (.iconst (-1), 1) := by decide +kernel
theorem dX4_sendOn_19 : decode cX4_sendOn 19 = .ok (.goto 7, 3) := by decide +kernel
theorem dX4_sendOn_22 : decode cX4_sendOn 22 = .ok (.aload_n 0, 1) := by decide +kernel
theorem dX4_sendOn_23 : decode cX4_sendOn 23 = .ok (.getfield 9, 3) := by decide +kernel
theorem dX4_sendOn_26 : decode cX4_sendOn 26 = .ok (.istore 4, 2) := by decide +kernel
theorem dX4_sendOn_28 : decode cX4_sendOn 28 = .ok (.aload_n 0, 1) := by decide +kernel
theorem dX4_sendOn_29 : decode cX4_sendOn 29 = .ok (.getfield 37, 3) := by decide +kernel
theorem dX4_sendOn_32 : decode cX4_sendOn 32 = .ok (.aload_n 0, 1) := by decide +kernel
theorem dX4_sendOn_33 : decode cX4_sendOn 33 = .ok (.getfield 28, 3) := by decide +kernel
theorem dX4_sendOn_36 : decode cX4_sendOn 36 = .ok (.iload_n 2, 1) := by decide +kernel
theorem dX4_sendOn_37 : decode cX4_sendOn 37 = .ok (.iconst 1, 1) := by decide +kernel
theorem dX4_sendOn_38 : decode cX4_sendOn 38 = .ok (.iadd, 1) := by decide +kernel
theorem dX4_sendOn_39 : decode cX4_sendOn 39 = .ok (.bipush 7, 2) := by decide +kernel
theorem dX4_sendOn_41 : decode cX4_sendOn 41 = .ok (.imul, 1) := by decide +kernel
theorem dX4_sendOn_42 : decode cX4_sendOn 42 = .ok (.iload_n 3, 1) := by decide +kernel
theorem dX4_sendOn_43 : decode cX4_sendOn 43 = .ok (.iload 4, 2) := by decide +kernel
theorem dX4_sendOn_45 : decode cX4_sendOn 45 = .ok (.invokevirtual 119, 3) := by decide +kernel
theorem dX4_sendOn_48 : decode cX4_sendOn 48 = .ok (.istore 5, 2) := by decide +kernel
theorem dX4_sendOn_50 : decode cX4_sendOn 50 = .ok (.aload_n 0, 1) := by decide +kernel
theorem dX4_sendOn_51 : decode cX4_sendOn 51 = .ok (.getfield 37, 3) := by decide +kernel
theorem dX4_sendOn_54 : decode cX4_sendOn 54 = .ok (.iload_n 3, 1) := by decide +kernel
theorem dX4_sendOn_55 : decode cX4_sendOn 55 = .ok (.iload 5, 2) := by decide +kernel
theorem dX4_sendOn_57 : decode cX4_sendOn 57 = .ok (.invokevirtual 123, 3) := by decide +kernel
theorem dX4_sendOn_60 : decode cX4_sendOn 60 = .ok (.istore 6, 2) := by decide +kernel
theorem dX4_sendOn_62 : decode cX4_sendOn 62 = .ok (.aload_n 0, 1) := by decide +kernel
theorem dX4_sendOn_63 : decode cX4_sendOn 63 = .ok (.getfield 31, 3) := by decide +kernel
theorem dX4_sendOn_66 : decode cX4_sendOn 66 = .ok (.iload_n 2, 1) := by decide +kernel
theorem dX4_sendOn_67 : decode cX4_sendOn 67 = .ok (.bipush 8, 2) := by decide +kernel
theorem dX4_sendOn_69 : decode cX4_sendOn 69 = .ok (.imul, 1) := by decide +kernel
theorem dX4_sendOn_70 : decode cX4_sendOn 70 = .ok (.iload_n 1, 1) := by decide +kernel
theorem dX4_sendOn_71 : decode cX4_sendOn 71 = .ok (.iadd, 1) := by decide +kernel
theorem dX4_sendOn_72 : decode cX4_sendOn 72 = .ok (.iload 5, 2) := by decide +kernel
theorem dX4_sendOn_74 : decode cX4_sendOn 74 = .ok (.iastore, 1) := by decide +kernel
theorem dX4_sendOn_75 : decode cX4_sendOn 75 = .ok (.aload_n 0, 1) := by decide +kernel
theorem dX4_sendOn_76 : decode cX4_sendOn 76 = .ok (.getfield 25, 3) := by decide +kernel
theorem dX4_sendOn_79 : decode cX4_sendOn 79 = .ok (.iload_n 2, 1) := by decide +kernel
theorem dX4_sendOn_80 : decode cX4_sendOn 80 = .ok (.iconst 1, 1) := by decide +kernel
theorem dX4_sendOn_81 : decode cX4_sendOn 81 = .ok (.iadd, 1) := by decide +kernel
theorem dX4_sendOn_82 : decode cX4_sendOn 82 = .ok (.bipush 8, 2) := by decide +kernel
theorem dX4_sendOn_84 : decode cX4_sendOn 84 = .ok (.imul, 1) := by decide +kernel
theorem dX4_sendOn_85 : decode cX4_sendOn 85 = .ok (.iload_n 1, 1) := by decide +kernel
theorem dX4_sendOn_86 : decode cX4_sendOn 86 = .ok (.iadd, 1) := by decide +kernel
theorem dX4_sendOn_87 : decode cX4_sendOn 87 = .ok (.aload_n 0, 1) := by decide +kernel
theorem dX4_sendOn_88 : decode cX4_sendOn 88 = .ok (.iload 6, 2) := by decide +kernel
theorem dX4_sendOn_90 : decode cX4_sendOn 90 = .ok (.invokevirtual 126, 3) := by decide +kernel
theorem dX4_sendOn_93 : decode cX4_sendOn 93 = .ok (.ifCond .eq 8, 3) := by decide +kernel
theorem dX4_sendOn_96 : decode cX4_sendOn 96 = .ok (.iload 6, 2) := by decide +kernel
theorem dX4_sendOn_98 : decode cX4_sendOn 98 = .ok (.goto 4, 3) := by decide +kernel
theorem dX4_sendOn_101 : decode cX4_sendOn 101 = .ok (.iload_n 3, 1) := by decide +kernel
theorem dX4_sendOn_102 : decode cX4_sendOn 102 = .ok (.iastore, 1) := by decide +kernel
theorem dX4_sendOn_103 : decode cX4_sendOn 103 = .ok (.return_, 1) := by decide +kernel
theorem dX4_letsIn_0 : decode cX4_letsIn 0 = .ok (.iload_n 1, 1) := by decide +kernel
theorem dX4_letsIn_1 : decode cX4_letsIn 1 = .ok (.bipush 10, 2) := by decide +kernel
theorem dX4_letsIn_3 : decode cX4_letsIn 3 = .ok (.if_icmp .ge 5, 3) := by decide +kernel
theorem dX4_letsIn_6 : decode cX4_letsIn 6 = .ok (.iconst 1, 1) := by decide +kernel
theorem dX4_letsIn_7 : decode cX4_letsIn 7 = .ok (.ireturn, 1) := by decide +kernel
theorem dX4_letsIn_8 : decode cX4_letsIn 8 = .ok (.iload_n 1, 1) := by decide +kernel
theorem dX4_letsIn_9 : decode cX4_letsIn 9 = .ok (.bipush 10, 2) := by decide +kernel
theorem dX4_letsIn_11 : decode cX4_letsIn 11 = .ok (.isub, 1) := by decide +kernel
theorem dX4_letsIn_12 : decode cX4_letsIn 12 = .ok (.istore_n 2, 1) := by decide +kernel
theorem dX4_letsIn_13 : decode cX4_letsIn 13 = .ok (.aload_n 0, 1) := by decide +kernel
theorem dX4_letsIn_14 : decode cX4_letsIn 14 = .ok (.getfield 34, 3) := by decide +kernel
theorem dX4_letsIn_17 : decode cX4_letsIn 17 = .ok (.iload_n 2, 1) := by decide +kernel
theorem dX4_letsIn_18 : decode cX4_letsIn 18 = .ok (.iaload, 1) := by decide +kernel
theorem dX4_letsIn_19 : decode cX4_letsIn 19 = .ok (.aload_n 0, 1) := by decide +kernel
theorem dX4_letsIn_20 : decode cX4_letsIn 20 = .ok (.getfield 37, 3) := by decide +kernel
theorem dX4_letsIn_23 : decode cX4_letsIn 23 = .ok (.getfield 129, 3) := by decide +kernel
theorem dX4_letsIn_26 : decode cX4_letsIn 26 = .ok (.iload_n 2, 1) := by decide +kernel
theorem dX4_letsIn_27 : decode cX4_letsIn 27 = .ok (.iaload, 1) := by decide +kernel
theorem dX4_letsIn_28 : decode cX4_letsIn 28 = .ok (.if_icmp .lt 5, 3) := by decide +kernel
theorem dX4_letsIn_31 : decode cX4_letsIn 31 = .ok (.iconst 0, 1) := by decide +kernel
theorem dX4_letsIn_32 : decode cX4_letsIn 32 = .ok (.ireturn, 1) := by decide +kernel
theorem dX4_letsIn_33 : decode cX4_letsIn 33 = .ok (.aload_n 0, 1) := by decide +kernel
theorem dX4_letsIn_34 : decode cX4_letsIn 34 = .ok (.getfield 34, 3) := by decide +kernel
theorem dX4_letsIn_37 : decode cX4_letsIn 37 = .ok (.iload_n 2, 1) := by decide +kernel
theorem dX4_letsIn_38 : decode cX4_letsIn 38 = .ok (.dup2, 1) := by decide +kernel
theorem dX4_letsIn_39 : decode cX4_letsIn 39 = .ok (.iaload, 1) := by decide +kernel
theorem dX4_letsIn_40 : decode cX4_letsIn 40 = .ok (.iconst 1, 1) := by decide +kernel
theorem dX4_letsIn_41 : decode cX4_letsIn 41 = .ok (.iadd, 1) := by decide +kernel
theorem dX4_letsIn_42 : decode cX4_letsIn 42 = .ok (.iastore, 1) := by decide +kernel
theorem dX4_letsIn_43 : decode cX4_letsIn 43 = .ok (.iconst 1, 1) := by decide +kernel
theorem dX4_letsIn_44 : decode cX4_letsIn 44 = .ok (.ireturn, 1) := by decide +kernel
theorem dX4_placeOf_0 : decode cX4_placeOf 0 = .ok (.aload_n 0, 1) := by decide +kernel
theorem dX4_placeOf_1 : decode cX4_placeOf 1 = .ok (.getfield 25, 3) := by decide +kernel
theorem dX4_placeOf_4 : decode cX4_placeOf 4 = .ok (.iload_n 2, 1) := by decide +kernel
theorem dX4_placeOf_5 : decode cX4_placeOf 5 = .ok (.bipush 8, 2) := by decide +kernel
theorem dX4_placeOf_7 : decode cX4_placeOf 7 = .ok (.imul, 1) := by decide +kernel
theorem dX4_placeOf_8 : decode cX4_placeOf 8 = .ok (.iload_n 1, 1) := by decide +kernel
theorem dX4_placeOf_9 : decode cX4_placeOf 9 = .ok (.iadd, 1) := by decide +kernel
theorem dX4_placeOf_10 : decode cX4_placeOf 10 = .ok (.iaload, 1) := by decide +kernel
theorem dX4_placeOf_11 : decode cX4_placeOf 11 = .ok (.ireturn, 1) := by decide +kernel
theorem dX4_armOf_0 : decode cX4_armOf 0 = .ok (.aload_n 0, 1) := by decide +kernel
theorem dX4_armOf_1 : decode cX4_armOf 1 = .ok (.getfield 37, 3) := by decide +kernel
theorem dX4_armOf_4 : decode cX4_armOf 4 = .ok (.iload_n 1, 1) := by decide +kernel
theorem dX4_armOf_5 : decode cX4_armOf 5 = .ok (.invokevirtual 90, 3) := by decide +kernel
theorem dX4_armOf_8 : decode cX4_armOf 8 = .ok (.ifCond .eq 17, 3) := by decide +kernel
theorem dX4_armOf_11 : decode cX4_armOf 11 = .ok (.aload_n 0, 1) := by decide +kernel
theorem dX4_armOf_12 : decode cX4_armOf 12 = .ok (.getfield 28, 3) := by decide +kernel
theorem dX4_armOf_15 : decode cX4_armOf 15 = .ok (.iload_n 2, 1) := by decide +kernel
theorem dX4_armOf_16 : decode cX4_armOf 16 = .ok (.bipush 7, 2) := by decide +kernel
theorem dX4_armOf_18 : decode cX4_armOf 18 = .ok (.imul, 1) := by decide +kernel
theorem dX4_armOf_19 : decode cX4_armOf 19 = .ok (.iload_n 1, 1) := by decide +kernel
theorem dX4_armOf_20 : decode cX4_armOf 20 = .ok (.iadd, 1) := by decide +kernel
theorem dX4_armOf_21 : decode cX4_armOf 21 = .ok (.iaload, 1) := by decide +kernel
theorem dX4_armOf_22 : decode cX4_armOf 22 = .ok (.goto 4, 3) := by decide +kernel
theorem dX4_armOf_25 : decode cX4_armOf 25 = .ok (.iconst (-1), 1) := by decide +kernel
theorem dX4_armOf_26 : decode cX4_armOf 26 = .ok (.ireturn, 1) := by decide +kernel
theorem dX4_isSent_0 : decode cX4_isSent 0 = .ok (.aload_n 0, 1) := by decide +kernel
theorem dX4_isSent_1 : decode cX4_isSent 1 = .ok (.getfield 31, 3) := by decide +kernel
theorem dX4_isSent_4 : decode cX4_isSent 4 = .ok (.iload_n 2, 1) := by decide +kernel
theorem dX4_isSent_5 : decode cX4_isSent 5 = .ok (.bipush 8, 2) := by decide +kernel
theorem dX4_isSent_7 : decode cX4_isSent 7 = .ok (.imul, 1) := by decide +kernel
theorem dX4_isSent_8 : decode cX4_isSent 8 = .ok (.iload_n 1, 1) := by decide +kernel
theorem dX4_isSent_9 : decode cX4_isSent 9 = .ok (.iadd, 1) := by decide +kernel
theorem dX4_isSent_10 : decode cX4_isSent 10 = .ok (.iaload, 1) := by decide +kernel
theorem dX4_isSent_11 : decode cX4_isSent 11 = .ok (.iconst (-1), 1) := by decide +kernel
theorem dX4_isSent_12 : decode cX4_isSent 12 = .ok (.if_icmp .eq 7, 3) := by decide +kernel
theorem dX4_isSent_15 : decode cX4_isSent 15 = .ok (.iconst 1, 1) := by decide +kernel
theorem dX4_isSent_16 : decode cX4_isSent 16 = .ok (.goto 4, 3) := by decide +kernel
theorem dX4_isSent_19 : decode cX4_isSent 19 = .ok (.iconst 0, 1) := by decide +kernel
theorem dX4_isSent_20 : decode cX4_isSent 20 = .ok (.ireturn, 1) := by decide +kernel
theorem dX4_walkersAt_0 : decode cX4_walkersAt 0 = .ok (.iconst 0, 1) := by decide +kernel
theorem dX4_walkersAt_1 : decode cX4_walkersAt 1 = .ok (.istore_n 3, 1) := by decide +kernel
theorem dX4_walkersAt_2 : decode cX4_walkersAt 2 = .ok (.iconst 0, 1) := by decide +kernel
theorem dX4_walkersAt_3 : decode cX4_walkersAt 3 = .ok (.istore 4, 2) := by decide +kernel
theorem dX4_walkersAt_5 : decode cX4_walkersAt 5 = .ok (.iload 4, 2) := by decide +kernel
theorem dX4_walkersAt_7 : decode cX4_walkersAt 7 = .ok (.aload_n 0, 1) := by decide +kernel
theorem dX4_walkersAt_8 : decode cX4_walkersAt 8 = .ok (.getfield 37, 3) := by decide +kernel
theorem dX4_walkersAt_11 : decode cX4_walkersAt 11 = .ok (.getfield 64, 3) := by decide +kernel
theorem dX4_walkersAt_14 : decode cX4_walkersAt 14 = .ok (.if_icmp .ge 27, 3) := by decide +kernel
theorem dX4_walkersAt_17 : decode cX4_walkersAt 17 = .ok (.aload_n 0, 1) := by decide +kernel
theorem dX4_walkersAt_18 : decode cX4_walkersAt 18 = .ok (.iload 4, 2) := by decide +kernel
theorem dX4_walkersAt_20 : decode cX4_walkersAt 20 = .ok (.iload_n 2, 1) := by decide +kernel
theorem dX4_walkersAt_21 : decode cX4_walkersAt 21 = .ok (.invokevirtual 113, 3) := by decide +kernel
theorem dX4_walkersAt_24 : decode cX4_walkersAt 24 = .ok (.iload_n 1, 1) := by decide +kernel
theorem dX4_walkersAt_25 : decode cX4_walkersAt 25 = .ok (.if_icmp .ne 10, 3) := by decide +kernel
theorem dX4_walkersAt_28 : decode cX4_walkersAt 28 = .ok (.iload_n 3, 1) := by decide +kernel
theorem dX4_walkersAt_29 : decode cX4_walkersAt 29 = .ok (.iconst 1, 1) := by decide +kernel
theorem dX4_walkersAt_30 : decode cX4_walkersAt 30 = .ok (.iload 4, 2) := by decide +kernel
theorem dX4_walkersAt_32 : decode cX4_walkersAt 32 = .ok (.ishl, 1) := by decide +kernel
theorem dX4_walkersAt_33 : decode cX4_walkersAt 33 = .ok (.ior, 1) := by decide +kernel
theorem dX4_walkersAt_34 : decode cX4_walkersAt 34 = .ok (.istore_n 3, 1) := by decide +kernel
theorem dX4_walkersAt_35 : decode cX4_walkersAt 35 = .ok (.iinc 4 1, 3) := by decide +kernel
theorem dX4_walkersAt_38 : decode cX4_walkersAt 38 = .ok (.goto (-33), 3) := by decide +kernel
theorem dX4_walkersAt_41 : decode cX4_walkersAt 41 = .ok (.iload_n 3, 1) := by decide +kernel
theorem dX4_walkersAt_42 : decode cX4_walkersAt 42 = .ok (.ireturn, 1) := by decide +kernel
theorem dX4_walkersSent_0 : decode cX4_walkersSent 0 = .ok (.iconst 0, 1) := by decide +kernel
theorem dX4_walkersSent_1 : decode cX4_walkersSent 1 = .ok (.istore_n 2, 1) := by decide +kernel
theorem dX4_walkersSent_2 : decode cX4_walkersSent 2 = .ok (.iconst 0, 1) := by decide +kernel
theorem dX4_walkersSent_3 : decode cX4_walkersSent 3 = .ok (.istore_n 3, 1) := by decide +kernel
theorem dX4_walkersSent_4 : decode cX4_walkersSent 4 = .ok (.iload_n 3, 1) := by decide +kernel
theorem dX4_walkersSent_5 : decode cX4_walkersSent 5 = .ok (.aload_n 0, 1) := by decide +kernel
theorem dX4_walkersSent_6 : decode cX4_walkersSent 6 = .ok (.getfield 37, 3) := by decide +kernel
theorem dX4_walkersSent_9 : decode cX4_walkersSent 9 = .ok (.getfield 64, 3) := by decide +kernel
theorem dX4_walkersSent_12 : decode cX4_walkersSent 12 = .ok (.if_icmp .ge 24, 3) := by decide +kernel
theorem dX4_walkersSent_15 : decode cX4_walkersSent 15 = .ok (.aload_n 0, 1) := by decide +kernel
theorem dX4_walkersSent_16 : decode cX4_walkersSent 16 = .ok (.iload_n 3, 1) := by decide +kernel
theorem dX4_walkersSent_17 : decode cX4_walkersSent 17 = .ok (.iload_n 1, 1) := by decide +kernel
theorem dX4_walkersSent_18 : decode cX4_walkersSent 18 = .ok (.invokevirtual 132, 3) := by decide +kernel
theorem dX4_walkersSent_21 : decode cX4_walkersSent 21 = .ok (.ifCond .eq 9, 3) := by decide +kernel
theorem dX4_walkersSent_24 : decode cX4_walkersSent 24 = .ok (.iload_n 2, 1) := by decide +kernel
theorem dX4_walkersSent_25 : decode cX4_walkersSent 25 = .ok (.iconst 1, 1) := by decide +kernel
theorem dX4_walkersSent_26 : decode cX4_walkersSent 26 = .ok (.iload_n 3, 1) := by decide +kernel
theorem dX4_walkersSent_27 : decode cX4_walkersSent 27 = .ok (.ishl, 1) := by decide +kernel
theorem dX4_walkersSent_28 : decode cX4_walkersSent 28 = .ok (.ior, 1) := by decide +kernel
theorem dX4_walkersSent_29 : decode cX4_walkersSent 29 = .ok (.istore_n 2, 1) := by decide +kernel
theorem dX4_walkersSent_30 : decode cX4_walkersSent 30 = .ok (.iinc 3 1, 3) := by decide +kernel
theorem dX4_walkersSent_33 : decode cX4_walkersSent 33 = .ok (.goto (-29), 3) := by decide +kernel
theorem dX4_walkersSent_36 : decode cX4_walkersSent 36 = .ok (.iload_n 2, 1) := by decide +kernel
theorem dX4_walkersSent_37 : decode cX4_walkersSent 37 = .ok (.ireturn, 1) := by decide +kernel
theorem dX4_walkersInside_0 : decode cX4_walkersInside 0 = .ok (.iconst 0, 1) := by decide +kernel
theorem dX4_walkersInside_1 : decode cX4_walkersInside 1 = .ok (.istore_n 2, 1) := by decide +kernel
theorem dX4_walkersInside_2 : decode cX4_walkersInside 2 = .ok (.iconst 0, 1) := by decide +kernel
theorem dX4_walkersInside_3 : decode cX4_walkersInside 3 = .ok (.istore_n 3, 1) := by decide +kernel
theorem dX4_walkersInside_4 : decode cX4_walkersInside 4 = .ok (.iload_n 3, 1) := by decide +kernel
theorem dX4_walkersInside_5 : decode cX4_walkersInside 5 = .ok (.aload_n 0, 1) := by decide +kernel
theorem dX4_walkersInside_6 : decode cX4_walkersInside 6 = .ok (.getfield 37, 3) := by decide +kernel
theorem dX4_walkersInside_9 : decode cX4_walkersInside 9 = .ok (.getfield 64, 3) := by decide +kernel
theorem dX4_walkersInside_12 : decode cX4_walkersInside 12 = .ok (.if_icmp .ge 26, 3) := by decide +kernel
theorem dX4_walkersInside_15 : decode cX4_walkersInside 15 = .ok (.aload_n 0, 1) := by decide +kernel
theorem dX4_walkersInside_16 : decode cX4_walkersInside 16 = .ok (.iload_n 3, 1) := by decide +kernel
theorem dX4_walkersInside_17 : decode cX4_walkersInside 17 = .ok (.iload_n 1, 1) := by decide +kernel
theorem dX4_walkersInside_18 : decode cX4_walkersInside 18 = .ok (.invokevirtual 113, 3) := by decide +kernel
theorem dX4_walkersInside_21 : decode cX4_walkersInside 21 = .ok (.bipush 10, 2) := by decide +kernel
theorem dX4_walkersInside_23 : decode cX4_walkersInside 23 = .ok (.if_icmp .lt 9, 3) := by decide +kernel
theorem dX4_walkersInside_26 : decode cX4_walkersInside 26 = .ok (.iload_n 2, 1) := by decide +kernel
theorem dX4_walkersInside_27 : decode cX4_walkersInside 27 = .ok (.iconst 1, 1) := by decide +kernel
theorem dX4_walkersInside_28 : decode cX4_walkersInside 28 = .ok (.iload_n 3, 1) := by decide +kernel
theorem dX4_walkersInside_29 : decode cX4_walkersInside 29 = .ok (.ishl, 1) := by decide +kernel
theorem dX4_walkersInside_30 : decode cX4_walkersInside 30 = .ok (.ior, 1) := by decide +kernel
theorem dX4_walkersInside_31 : decode cX4_walkersInside 31 = .ok (.istore_n 2, 1) := by decide +kernel
theorem dX4_walkersInside_32 : decode cX4_walkersInside 32 = .ok (.iinc 3 1, 3) := by decide +kernel
theorem dX4_walkersInside_35 : decode cX4_walkersInside 35 = .ok (.goto (-31), 3) := by decide +kernel
theorem dX4_walkersInside_38 : decode cX4_walkersInside 38 = .ok (.iload_n 2, 1) := by decide +kernel
theorem dX4_walkersInside_39 : decode cX4_walkersInside 39 = .ok (.ireturn, 1) := by decide +kernel
theorem dX4_walkersOutside_0 : decode cX4_walkersOutside 0 = .ok (.iconst 0, 1) := by decide +kernel
theorem dX4_walkersOutside_1 : decode cX4_walkersOutside 1 = .ok (.istore_n 2, 1) := by decide +kernel
theorem dX4_walkersOutside_2 : decode cX4_walkersOutside 2 = .ok (.iconst 0, 1) := by decide +kernel
theorem dX4_walkersOutside_3 : decode cX4_walkersOutside 3 = .ok (.istore_n 3, 1) := by decide +kernel
theorem dX4_walkersOutside_4 : decode cX4_walkersOutside 4 = .ok (.iload_n 3, 1) := by decide +kernel
theorem dX4_walkersOutside_5 : decode cX4_walkersOutside 5 = .ok (.aload_n 0, 1) := by decide +kernel
theorem dX4_walkersOutside_6 : decode cX4_walkersOutside 6 = .ok (.getfield 37, 3) := by decide +kernel
theorem dX4_walkersOutside_9 : decode cX4_walkersOutside 9 = .ok (.getfield 64, 3) := by decide +kernel
theorem dX4_walkersOutside_12 : decode cX4_walkersOutside 12 = .ok (.if_icmp .ge 36, 3) := by decide +kernel
theorem dX4_walkersOutside_15 : decode cX4_walkersOutside 15 = .ok (.aload_n 0, 1) := by decide +kernel
theorem dX4_walkersOutside_16 : decode cX4_walkersOutside 16 = .ok (.iload_n 3, 1) := by decide +kernel
theorem dX4_walkersOutside_17 : decode cX4_walkersOutside 17 = .ok (.iload_n 1, 1) := by decide +kernel
theorem dX4_walkersOutside_18 : decode cX4_walkersOutside 18 = .ok (.invokevirtual 113, 3) := by decide +kernel
theorem dX4_walkersOutside_21 : decode cX4_walkersOutside 21 = .ok (.istore 4, 2) := by decide +kernel
theorem dX4_walkersOutside_23 : decode cX4_walkersOutside 23 = .ok (.iload 4, 2) := by decide +kernel
theorem dX4_walkersOutside_25 : decode cX4_walkersOutside 25 = .ok (.iconst (-1), 1) := by decide +kernel
theorem dX4_walkersOutside_26 : decode cX4_walkersOutside 26 = .ok (.if_icmp .eq 16, 3) := by decide +kernel
theorem dX4_walkersOutside_29 : decode cX4_walkersOutside 29 = .ok (.iload 4, 2) := by decide +kernel
theorem dX4_walkersOutside_31 : decode cX4_walkersOutside 31 = .ok (.bipush 10, 2) := by decide +kernel
theorem dX4_walkersOutside_33 : decode cX4_walkersOutside 33 = .ok (.if_icmp .ge 9, 3) := by decide +kernel
theorem dX4_walkersOutside_36 : decode cX4_walkersOutside 36 = .ok (.iload_n 2, 1) := by decide +kernel
theorem dX4_walkersOutside_37 : decode cX4_walkersOutside 37 = .ok (.iconst 1, 1) := by decide +kernel
theorem dX4_walkersOutside_38 : decode cX4_walkersOutside 38 = .ok (.iload_n 3, 1) := by decide +kernel
theorem dX4_walkersOutside_39 : decode cX4_walkersOutside 39 = .ok (.ishl, 1) := by decide +kernel
theorem dX4_walkersOutside_40 : decode cX4_walkersOutside 40 = .ok (.ior, 1) := by decide +kernel
theorem dX4_walkersOutside_41 : decode cX4_walkersOutside 41 = .ok (.istore_n 2, 1) := by decide +kernel
theorem dX4_walkersOutside_42 : decode cX4_walkersOutside 42 = .ok (.iinc 3 1, 3) := by decide +kernel
theorem dX4_walkersOutside_45 : decode cX4_walkersOutside 45 = .ok (.goto (-41), 3) := by decide +kernel
theorem dX4_walkersOutside_48 : decode cX4_walkersOutside 48 = .ok (.iload_n 2, 1) := by decide +kernel
theorem dX4_walkersOutside_49 : decode cX4_walkersOutside 49 = .ok (.ireturn, 1) := by decide +kernel
theorem dX4_timesPostSent_0 : decode cX4_timesPostSent 0 = .ok (.iconst 0, 1) := by decide +kernel
theorem dX4_timesPostSent_1 : decode cX4_timesPostSent 1 = .ok (.istore_n 2, 1) := by decide +kernel
theorem dX4_timesPostSent_2 : decode cX4_timesPostSent 2 = .ok (.iconst 0, 1) := by decide +kernel
theorem dX4_timesPostSent_3 : decode cX4_timesPostSent 3 = .ok (.istore_n 3, 1) := by decide +kernel
theorem dX4_timesPostSent_4 : decode cX4_timesPostSent 4 = .ok (.iload_n 3, 1) := by decide +kernel
theorem dX4_timesPostSent_5 : decode cX4_timesPostSent 5 = .ok (.aload_n 0, 1) := by decide +kernel
theorem dX4_timesPostSent_6 : decode cX4_timesPostSent 6 = .ok (.getfield 37, 3) := by decide +kernel
theorem dX4_timesPostSent_9 : decode cX4_timesPostSent 9 = .ok (.getfield 135, 3) := by decide +kernel
theorem dX4_timesPostSent_12 : decode cX4_timesPostSent 12 = .ok (.iload_n 1, 1) := by decide +kernel
theorem dX4_timesPostSent_13 : decode cX4_timesPostSent 13 = .ok (.iaload, 1) := by decide +kernel
theorem dX4_timesPostSent_14 : decode cX4_timesPostSent 14 = .ok (.if_icmp .ge 18, 3) := by decide +kernel
theorem dX4_timesPostSent_17 : decode cX4_timesPostSent 17 = .ok (.iload_n 2, 1) := by decide +kernel
theorem dX4_timesPostSent_18 : decode cX4_timesPostSent 18 = .ok (.aload_n 0, 1) := by decide +kernel
theorem dX4_timesPostSent_19 : decode cX4_timesPostSent 19 = .ok (.iload_n 1, 1) := by decide +kernel
theorem dX4_timesPostSent_20 : decode cX4_timesPostSent 20 = .ok (.iload_n 3, 1) := by decide +kernel
theorem dX4_timesPostSent_21 : decode cX4_timesPostSent 21 = .ok (.invokevirtual 138, 3) := by decide +kernel
theorem dX4_timesPostSent_24 : decode cX4_timesPostSent 24 = .ok (.iadd, 1) := by decide +kernel
theorem dX4_timesPostSent_25 : decode cX4_timesPostSent 25 = .ok (.istore_n 2, 1) := by decide +kernel
theorem dX4_timesPostSent_26 : decode cX4_timesPostSent 26 = .ok (.iinc 3 1, 3) := by decide +kernel
theorem dX4_timesPostSent_29 : decode cX4_timesPostSent 29 = .ok (.goto (-25), 3) := by decide +kernel
theorem dX4_timesPostSent_32 : decode cX4_timesPostSent 32 = .ok (.iload_n 2, 1) := by decide +kernel
theorem dX4_timesPostSent_33 : decode cX4_timesPostSent 33 = .ok (.ireturn, 1) := by decide +kernel
theorem dX4_timesRoadUsed_0 : decode cX4_timesRoadUsed 0 = .ok (.iconst 0, 1) := by decide +kernel
theorem dX4_timesRoadUsed_1 : decode cX4_timesRoadUsed 1 = .ok (.istore_n 3, 1) := by decide +kernel
theorem dX4_timesRoadUsed_2 : decode cX4_timesRoadUsed 2 = .ok (.iconst 0, 1) := by decide +kernel
theorem dX4_timesRoadUsed_3 : decode cX4_timesRoadUsed 3 = .ok (.istore 4, 2) := by decide +kernel
theorem dX4_timesRoadUsed_5 : decode cX4_timesRoadUsed 5 = .ok (.iload 4, 2) := by decide +kernel
theorem dX4_timesRoadUsed_7 : decode cX4_timesRoadUsed 7 = .ok (.aload_n 0, 1) := by decide +kernel
theorem dX4_timesRoadUsed_8 : decode cX4_timesRoadUsed 8 = .ok (.getfield 37, 3) := by decide +kernel
theorem dX4_timesRoadUsed_11 : decode cX4_timesRoadUsed 11 = .ok (.getfield 57, 3) := by decide +kernel
theorem dX4_timesRoadUsed_14 : decode cX4_timesRoadUsed 14 = .ok (.if_icmp .ge 62, 3) := by decide +kernel
theorem dX4_timesRoadUsed_17 : decode cX4_timesRoadUsed 17 = .ok (.iconst 0, 1) := by decide +kernel
theorem dX4_timesRoadUsed_18 : decode cX4_timesRoadUsed 18 = .ok (.istore 5, 2) := by decide +kernel
theorem dX4_timesRoadUsed_20 : decode cX4_timesRoadUsed 20 = .ok (.iload 5, 2) := by decide +kernel
theorem dX4_timesRoadUsed_22 : decode cX4_timesRoadUsed 22 = .ok (.aload_n 0, 1) := by decide +kernel
theorem dX4_timesRoadUsed_23 : decode cX4_timesRoadUsed 23 = .ok (.getfield 37, 3) := by decide +kernel
theorem dX4_timesRoadUsed_26 : decode cX4_timesRoadUsed 26 = .ok (.getfield 64, 3) := by decide +kernel
theorem dX4_timesRoadUsed_29 : decode cX4_timesRoadUsed 29 = .ok (.if_icmp .ge 41, 3) := by decide +kernel
theorem dX4_timesRoadUsed_32 : decode cX4_timesRoadUsed 32 = .ok (.aload_n 0, 1) := by decide +kernel
theorem dX4_timesRoadUsed_33 : decode cX4_timesRoadUsed 33 = .ok (.iload 5, 2) := by decide +kernel
theorem dX4_timesRoadUsed_35 : decode cX4_timesRoadUsed 35 = .ok (.iload 4, 2) := by decide +kernel
theorem dX4_timesRoadUsed_37 : decode cX4_timesRoadUsed 37 = .ok (.invokevirtual 113, 3) := by decide +kernel
theorem dX4_timesRoadUsed_40 : decode cX4_timesRoadUsed 40 = .ok (.iload_n 1, 1) := by decide +kernel
theorem dX4_timesRoadUsed_41 : decode cX4_timesRoadUsed 41 = .ok (.if_icmp .ne 23, 3) := by decide +kernel
theorem dX4_timesRoadUsed_44 : decode cX4_timesRoadUsed 44 = .ok (.aload_n 0, 1) := by decide +kernel
theorem dX4_timesRoadUsed_45 : decode cX4_timesRoadUsed 45 = .ok (.getfield 31, 3) := by decide +kernel
theorem dX4_timesRoadUsed_48 : decode cX4_timesRoadUsed 48 = .ok (.iload 4, 2) := by decide +kernel
theorem dX4_timesRoadUsed_50 : decode cX4_timesRoadUsed 50 = .ok (.bipush 8, 2) := by decide +kernel
theorem dX4_timesRoadUsed_52 : decode cX4_timesRoadUsed 52 = .ok (.imul, 1) := by decide +kernel
theorem dX4_timesRoadUsed_53 : decode cX4_timesRoadUsed 53 = .ok (.iload 5, 2) := by decide +kernel
theorem dX4_timesRoadUsed_55 : decode cX4_timesRoadUsed 55 = .ok (.iadd, 1) := by decide +kernel
theorem dX4_timesRoadUsed_56 : decode cX4_timesRoadUsed 56 = .ok (.iaload, 1) := by decide +kernel
theorem dX4_timesRoadUsed_57 : decode cX4_timesRoadUsed 57 = .ok (.iload_n 2, 1) := by decide +kernel
theorem dX4_timesRoadUsed_58 : decode cX4_timesRoadUsed 58 = .ok (.if_icmp .ne 6, 3) := by decide +kernel
theorem dX4_timesRoadUsed_61 : decode cX4_timesRoadUsed 61 = .ok (.iinc 3 1, 3) := by decide +kernel
theorem dX4_timesRoadUsed_64 : decode cX4_timesRoadUsed 64 = .ok (.iinc 5 1, 3) := by decide +kernel
theorem dX4_timesRoadUsed_67 : decode cX4_timesRoadUsed 67 = .ok (.goto (-47), 3) := by decide +kernel
theorem dX4_timesRoadUsed_70 : decode cX4_timesRoadUsed 70 = .ok (.iinc 4 1, 3) := by decide +kernel
theorem dX4_timesRoadUsed_73 : decode cX4_timesRoadUsed 73 = .ok (.goto (-68), 3) := by decide +kernel
theorem dX4_timesRoadUsed_76 : decode cX4_timesRoadUsed 76 = .ok (.iload_n 3, 1) := by decide +kernel
theorem dX4_timesRoadUsed_77 : decode cX4_timesRoadUsed 77 = .ok (.ireturn, 1) := by decide +kernel
theorem dX4_timesWalked_0 : decode cX4_timesWalked 0 = .ok (.iconst 0, 1) := by decide +kernel
theorem dX4_timesWalked_1 : decode cX4_timesWalked 1 = .ok (.istore_n 2, 1) := by decide +kernel
theorem dX4_timesWalked_2 : decode cX4_timesWalked 2 = .ok (.iconst 0, 1) := by decide +kernel
theorem dX4_timesWalked_3 : decode cX4_timesWalked 3 = .ok (.istore_n 3, 1) := by decide +kernel
theorem dX4_timesWalked_4 : decode cX4_timesWalked 4 = .ok (.iload_n 3, 1) := by decide +kernel
theorem dX4_timesWalked_5 : decode cX4_timesWalked 5 = .ok (.aload_n 0, 1) := by decide +kernel
theorem dX4_timesWalked_6 : decode cX4_timesWalked 6 = .ok (.getfield 37, 3) := by decide +kernel
theorem dX4_timesWalked_9 : decode cX4_timesWalked 9 = .ok (.getfield 57, 3) := by decide +kernel
theorem dX4_timesWalked_12 : decode cX4_timesWalked 12 = .ok (.if_icmp .ge 21, 3) := by decide +kernel
theorem dX4_timesWalked_15 : decode cX4_timesWalked 15 = .ok (.aload_n 0, 1) := by decide +kernel
theorem dX4_timesWalked_16 : decode cX4_timesWalked 16 = .ok (.iload_n 1, 1) := by decide +kernel
theorem dX4_timesWalked_17 : decode cX4_timesWalked 17 = .ok (.iload_n 3, 1) := by decide +kernel
theorem dX4_timesWalked_18 : decode cX4_timesWalked 18 = .ok (.invokevirtual 132, 3) := by decide +kernel
theorem dX4_timesWalked_21 : decode cX4_timesWalked 21 = .ok (.ifCond .eq 6, 3) := by decide +kernel
theorem dX4_timesWalked_24 : decode cX4_timesWalked 24 = .ok (.iinc 2 1, 3) := by decide +kernel
theorem dX4_timesWalked_27 : decode cX4_timesWalked 27 = .ok (.iinc 3 1, 3) := by decide +kernel
theorem dX4_timesWalked_30 : decode cX4_timesWalked 30 = .ok (.goto (-26), 3) := by decide +kernel
theorem dX4_timesWalked_33 : decode cX4_timesWalked 33 = .ok (.iload_n 2, 1) := by decide +kernel
theorem dX4_timesWalked_34 : decode cX4_timesWalked 34 = .ok (.ireturn, 1) := by decide +kernel
theorem dX4_firstHourHome_0 : decode cX4_firstHourHome 0 = .ok (.iconst 0, 1) := by decide +kernel
theorem dX4_firstHourHome_1 : decode cX4_firstHourHome 1 = .ok (.istore_n 2, 1) := by decide +kernel
theorem dX4_firstHourHome_2 : decode cX4_firstHourHome 2 = .ok (.iload_n 2, 1) := by decide +kernel
theorem dX4_firstHourHome_3 : decode cX4_firstHourHome 3 = .ok (.aload_n 0, 1) := by decide +kernel
theorem dX4_firstHourHome_4 : decode cX4_firstHourHome 4 = .ok (.getfield 37, 3) := by decide +kernel
theorem dX4_firstHourHome_7 : decode cX4_firstHourHome 7 = .ok (.getfield 57, 3) := by decide +kernel
theorem dX4_firstHourHome_10 : decode cX4_firstHourHome 10 = .ok (.if_icmp .gt 22, 3) := by decide +kernel
theorem dX4_firstHourHome_13 : decode cX4_firstHourHome 13 = .ok (.aload_n 0, 1) := by decide +kernel
theorem dX4_firstHourHome_14 : decode cX4_firstHourHome 14 = .ok (.iload_n 1, 1) := by decide +kernel
theorem dX4_firstHourHome_15 : decode cX4_firstHourHome 15 = .ok (.iload_n 2, 1) := by decide +kernel
theorem dX4_firstHourHome_16 : decode cX4_firstHourHome 16 = .ok (.invokevirtual 113, 3) := by decide +kernel
theorem dX4_firstHourHome_19 : decode cX4_firstHourHome 19 = .ok (.bipush 10, 2) := by decide +kernel
theorem dX4_firstHourHome_21 : decode cX4_firstHourHome 21 = .ok (.if_icmp .lt 5, 3) := by decide +kernel
theorem dX4_firstHourHome_24 : decode cX4_firstHourHome 24 = .ok (.iload_n 2, 1) := by decide +kernel
theorem dX4_firstHourHome_25 : decode cX4_firstHourHome 25 = .ok (.ireturn, 1) := by decide +kernel
theorem dX4_firstHourHome_26 : decode cX4_firstHourHome 26 = .ok (.iinc 2 1, 3) := by decide +kernel
theorem dX4_firstHourHome_29 : decode cX4_firstHourHome 29 = .ok (.goto (-27), 3) := by decide +kernel
theorem dX4_firstHourHome_32 : decode cX4_firstHourHome 32 = .ok (.iconst (-1), 1) := by decide +kernel
theorem dX4_firstHourHome_33 : decode cX4_firstHourHome 33 = .ok (.ireturn, 1) := by decide +kernel
theorem dX4_firstHourIn_0 : decode cX4_firstHourIn 0 = .ok (.iconst 0, 1) := by decide +kernel
theorem dX4_firstHourIn_1 : decode cX4_firstHourIn 1 = .ok (.istore_n 3, 1) := by decide +kernel
theorem dX4_firstHourIn_2 : decode cX4_firstHourIn 2 = .ok (.iload_n 3, 1) := by decide +kernel
theorem dX4_firstHourIn_3 : decode cX4_firstHourIn 3 = .ok (.aload_n 0, 1) := by decide +kernel
theorem dX4_firstHourIn_4 : decode cX4_firstHourIn 4 = .ok (.getfield 37, 3) := by decide +kernel
theorem dX4_firstHourIn_7 : decode cX4_firstHourIn 7 = .ok (.getfield 57, 3) := by decide +kernel
theorem dX4_firstHourIn_10 : decode cX4_firstHourIn 10 = .ok (.if_icmp .gt 21, 3) := by decide +kernel
theorem dX4_firstHourIn_13 : decode cX4_firstHourIn 13 = .ok (.aload_n 0, 1) := by decide +kernel
theorem dX4_firstHourIn_14 : decode cX4_firstHourIn 14 = .ok (.iload_n 1, 1) := by decide +kernel
theorem dX4_firstHourIn_15 : decode cX4_firstHourIn 15 = .ok (.iload_n 3, 1) := by decide +kernel
theorem dX4_firstHourIn_16 : decode cX4_firstHourIn 16 = .ok (.invokevirtual 113, 3) := by decide +kernel
theorem dX4_firstHourIn_19 : decode cX4_firstHourIn 19 = .ok (.iload_n 2, 1) := by decide +kernel
theorem dX4_firstHourIn_20 : decode cX4_firstHourIn 20 = .ok (.if_icmp .ne 5, 3) := by decide +kernel
theorem dX4_firstHourIn_23 : decode cX4_firstHourIn 23 = .ok (.iload_n 3, 1) := by decide +kernel
theorem dX4_firstHourIn_24 : decode cX4_firstHourIn 24 = .ok (.ireturn, 1) := by decide +kernel
theorem dX4_firstHourIn_25 : decode cX4_firstHourIn 25 = .ok (.iinc 3 1, 3) := by decide +kernel
theorem dX4_firstHourIn_28 : decode cX4_firstHourIn 28 = .ok (.goto (-26), 3) := by decide +kernel
theorem dX4_firstHourIn_31 : decode cX4_firstHourIn 31 = .ok (.iconst (-1), 1) := by decide +kernel
theorem dX4_firstHourIn_32 : decode cX4_firstHourIn 32 = .ok (.ireturn, 1) := by decide +kernel
theorem dX4_postsVisited_0 : decode cX4_postsVisited 0 = .ok (.iconst 0, 1) := by decide +kernel
theorem dX4_postsVisited_1 : decode cX4_postsVisited 1 = .ok (.istore_n 2, 1) := by decide +kernel
theorem dX4_postsVisited_2 : decode cX4_postsVisited 2 = .ok (.iconst 0, 1) := by decide +kernel
theorem dX4_postsVisited_3 : decode cX4_postsVisited 3 = .ok (.istore_n 3, 1) := by decide +kernel
theorem dX4_postsVisited_4 : decode cX4_postsVisited 4 = .ok (.iload_n 3, 1) := by decide +kernel
theorem dX4_postsVisited_5 : decode cX4_postsVisited 5 = .ok (.aload_n 0, 1) := by decide +kernel
theorem dX4_postsVisited_6 : decode cX4_postsVisited 6 = .ok (.getfield 37, 3) := by decide +kernel
theorem dX4_postsVisited_9 : decode cX4_postsVisited 9 = .ok (.getfield 57, 3) := by decide +kernel
theorem dX4_postsVisited_12 : decode cX4_postsVisited 12 = .ok (.if_icmp .gt 18, 3) := by decide +kernel
theorem dX4_postsVisited_15 : decode cX4_postsVisited 15 = .ok (.iload_n 2, 1) := by decide +kernel
theorem dX4_postsVisited_16 : decode cX4_postsVisited 16 = .ok (.aload_n 0, 1) := by decide +kernel
theorem dX4_postsVisited_17 : decode cX4_postsVisited 17 = .ok (.iload_n 1, 1) := by decide +kernel
theorem dX4_postsVisited_18 : decode cX4_postsVisited 18 = .ok (.iload_n 3, 1) := by decide +kernel
theorem dX4_postsVisited_19 : decode cX4_postsVisited 19 = .ok (.invokevirtual 141, 3) := by decide +kernel
theorem dX4_postsVisited_22 : decode cX4_postsVisited 22 = .ok (.ior, 1) := by decide +kernel
theorem dX4_postsVisited_23 : decode cX4_postsVisited 23 = .ok (.istore_n 2, 1) := by decide +kernel
theorem dX4_postsVisited_24 : decode cX4_postsVisited 24 = .ok (.iinc 3 1, 3) := by decide +kernel
theorem dX4_postsVisited_27 : decode cX4_postsVisited 27 = .ok (.goto (-23), 3) := by decide +kernel
theorem dX4_postsVisited_30 : decode cX4_postsVisited 30 = .ok (.iload_n 2, 1) := by decide +kernel
theorem dX4_postsVisited_31 : decode cX4_postsVisited 31 = .ok (.ireturn, 1) := by decide +kernel
theorem dX4_timesReturned_0 : decode cX4_timesReturned 0 = .ok (.iconst 0, 1) := by decide +kernel
theorem dX4_timesReturned_1 : decode cX4_timesReturned 1 = .ok (.istore_n 2, 1) := by decide +kernel
theorem dX4_timesReturned_2 : decode cX4_timesReturned 2 = .ok (.aload_n 0, 1) := by decide +kernel
theorem dX4_timesReturned_3 : decode cX4_timesReturned 3 = .ok (.iload_n 1, 1) := by decide +kernel
theorem dX4_timesReturned_4 : decode cX4_timesReturned 4 = .ok (.iconst 0, 1) := by decide +kernel
theorem dX4_timesReturned_5 : decode cX4_timesReturned 5 = .ok (.invokevirtual 141, 3) := by decide +kernel
theorem dX4_timesReturned_8 : decode cX4_timesReturned 8 = .ok (.istore_n 3, 1) := by decide +kernel
theorem dX4_timesReturned_9 : decode cX4_timesReturned 9 = .ok (.iconst 1, 1) := by decide +kernel
theorem dX4_timesReturned_10 : decode cX4_timesReturned 10 = .ok (.istore 4, 2) := by decide +kernel
theorem dX4_timesReturned_12 : decode cX4_timesReturned 12 = .ok (.iload 4, 2) := by decide +kernel
theorem dX4_timesReturned_14 : decode cX4_timesReturned 14 = .ok (.aload_n 0, 1) := by decide +kernel
theorem dX4_timesReturned_15 : decode cX4_timesReturned 15 = .ok (.getfield 37, 3) := by decide +kernel
theorem dX4_timesReturned_18 : decode cX4_timesReturned 18 = .ok (.getfield 57, 3) := by decide +kernel
theorem dX4_timesReturned_21 : decode cX4_timesReturned 21 = .ok (.if_icmp .gt 47, 3) := by decide +kernel
theorem dX4_timesReturned_24 : decode cX4_timesReturned 24 = .ok (.aload_n 0, 1) := by decide +kernel
theorem dX4_timesReturned_25 : decode cX4_timesReturned 25 = .ok (.iload_n 1, 1) := by decide +kernel
theorem dX4_timesReturned_26 : decode cX4_timesReturned 26 = .ok (.iload 4, 2) := by decide +kernel
theorem dX4_timesReturned_28 : decode cX4_timesReturned 28 = .ok (.invokevirtual 141, 3) := by decide +kernel
theorem dX4_timesReturned_31 : decode cX4_timesReturned 31 = .ok (.istore 5, 2) := by decide +kernel
theorem dX4_timesReturned_33 : decode cX4_timesReturned 33 = .ok (.iload_n 3, 1) := by decide +kernel
theorem dX4_timesReturned_34 : decode cX4_timesReturned 34 = .ok (.iload 5, 2) := by decide +kernel
theorem dX4_timesReturned_36 : decode cX4_timesReturned 36 = .ok (.iand, 1) := by decide +kernel
theorem dX4_timesReturned_37 : decode cX4_timesReturned 37 = .ok (.ifCond .eq 20, 3) := by decide +kernel
theorem dX4_timesReturned_40 : decode cX4_timesReturned 40 = .ok (.iload 5, 2) := by decide +kernel
theorem dX4_timesReturned_42 : decode cX4_timesReturned 42 = .ok (.aload_n 0, 1) := by decide +kernel
theorem dX4_timesReturned_43 : decode cX4_timesReturned 43 = .ok (.iload_n 1, 1) := by decide +kernel
theorem dX4_timesReturned_44 : decode cX4_timesReturned 44 = .ok (.iload 4, 2) := by decide +kernel
theorem dX4_timesReturned_46 : decode cX4_timesReturned 46 = .ok (.iconst 1, 1) := by decide +kernel
theorem dX4_timesReturned_47 : decode cX4_timesReturned 47 = .ok (.isub, 1) := by decide +kernel
theorem dX4_timesReturned_48 : decode cX4_timesReturned 48 = .ok (.invokevirtual 141, 3) := by decide +kernel
theorem dX4_timesReturned_51 : decode cX4_timesReturned 51 = .ok (.if_icmp .eq 6, 3) := by decide +kernel
theorem dX4_timesReturned_54 : decode cX4_timesReturned 54 = .ok (.iinc 2 1, 3) := by decide +kernel
theorem dX4_timesReturned_57 : decode cX4_timesReturned 57 = .ok (.iload_n 3, 1) := by decide +kernel
theorem dX4_timesReturned_58 : decode cX4_timesReturned 58 = .ok (.iload 5, 2) := by decide +kernel
theorem dX4_timesReturned_60 : decode cX4_timesReturned 60 = .ok (.ior, 1) := by decide +kernel
theorem dX4_timesReturned_61 : decode cX4_timesReturned 61 = .ok (.istore_n 3, 1) := by decide +kernel
theorem dX4_timesReturned_62 : decode cX4_timesReturned 62 = .ok (.iinc 4 1, 3) := by decide +kernel
theorem dX4_timesReturned_65 : decode cX4_timesReturned 65 = .ok (.goto (-53), 3) := by decide +kernel
theorem dX4_timesReturned_68 : decode cX4_timesReturned 68 = .ok (.iload_n 2, 1) := by decide +kernel
theorem dX4_timesReturned_69 : decode cX4_timesReturned 69 = .ok (.ireturn, 1) := by decide +kernel
theorem dX4_hoursLingered_0 : decode cX4_hoursLingered 0 = .ok (.iconst 0, 1) := by decide +kernel
theorem dX4_hoursLingered_1 : decode cX4_hoursLingered 1 = .ok (.istore_n 2, 1) := by decide +kernel
theorem dX4_hoursLingered_2 : decode cX4_hoursLingered 2 = .ok (.iconst 1, 1) := by decide +kernel
theorem dX4_hoursLingered_3 : decode cX4_hoursLingered 3 = .ok (.istore_n 3, 1) := by decide +kernel
theorem dX4_hoursLingered_4 : decode cX4_hoursLingered 4 = .ok (.iload_n 3, 1) := by decide +kernel
theorem dX4_hoursLingered_5 : decode cX4_hoursLingered 5 = .ok (.aload_n 0, 1) := by decide +kernel
theorem dX4_hoursLingered_6 : decode cX4_hoursLingered 6 = .ok (.getfield 37, 3) := by decide +kernel
theorem dX4_hoursLingered_9 : decode cX4_hoursLingered 9 = .ok (.getfield 57, 3) := by decide +kernel
theorem dX4_hoursLingered_12 : decode cX4_hoursLingered 12 = .ok (.if_icmp .gt 38, 3) := by decide +kernel
theorem dX4_hoursLingered_15 : decode cX4_hoursLingered 15 = .ok (.aload_n 0, 1) := by decide +kernel
theorem dX4_hoursLingered_16 : decode cX4_hoursLingered 16 = .ok (.iload_n 1, 1) := by decide +kernel
theorem dX4_hoursLingered_17 : decode cX4_hoursLingered 17 = .ok (.iload_n 3, 1) := by decide +kernel
theorem dX4_hoursLingered_18 : decode cX4_hoursLingered 18 = .ok (.invokevirtual 141, 3) := by decide +kernel
theorem dX4_hoursLingered_21 : decode cX4_hoursLingered 21 = .ok (.istore 4, 2) := by decide +kernel
theorem dX4_hoursLingered_23 : decode cX4_hoursLingered 23 = .ok (.iload 4, 2) := by decide +kernel
theorem dX4_hoursLingered_25 : decode cX4_hoursLingered 25 = .ok (.ifCond .eq 19, 3) := by decide +kernel
theorem dX4_hoursLingered_28 : decode cX4_hoursLingered 28 = .ok (.iload 4, 2) := by decide +kernel
theorem dX4_hoursLingered_30 : decode cX4_hoursLingered 30 = .ok (.aload_n 0, 1) := by decide +kernel
theorem dX4_hoursLingered_31 : decode cX4_hoursLingered 31 = .ok (.iload_n 1, 1) := by decide +kernel
theorem dX4_hoursLingered_32 : decode cX4_hoursLingered 32 = .ok (.iload_n 3, 1) := by decide +kernel
theorem dX4_hoursLingered_33 : decode cX4_hoursLingered 33 = .ok (.iconst 1, 1) := by decide +kernel
theorem dX4_hoursLingered_34 : decode cX4_hoursLingered 34 = .ok (.isub, 1) := by decide +kernel
theorem dX4_hoursLingered_35 : decode cX4_hoursLingered 35 = .ok (.invokevirtual 141, 3) := by decide +kernel
theorem dX4_hoursLingered_38 : decode cX4_hoursLingered 38 = .ok (.if_icmp .ne 6, 3) := by decide +kernel
theorem dX4_hoursLingered_41 : decode cX4_hoursLingered 41 = .ok (.iinc 2 1, 3) := by decide +kernel
theorem dX4_hoursLingered_44 : decode cX4_hoursLingered 44 = .ok (.iinc 3 1, 3) := by decide +kernel
theorem dX4_hoursLingered_47 : decode cX4_hoursLingered 47 = .ok (.goto (-43), 3) := by decide +kernel
theorem dX4_hoursLingered_50 : decode cX4_hoursLingered 50 = .ok (.iload_n 2, 1) := by decide +kernel
theorem dX4_hoursLingered_51 : decode cX4_hoursLingered 51 = .ok (.ireturn, 1) := by decide +kernel
theorem dX4_postBit_0 : decode cX4_postBit 0 = .ok (.aload_n 0, 1) := by decide +kernel
theorem dX4_postBit_1 : decode cX4_postBit 1 = .ok (.iload_n 1, 1) := by decide +kernel
theorem dX4_postBit_2 : decode cX4_postBit 2 = .ok (.iload_n 2, 1) := by decide +kernel
theorem dX4_postBit_3 : decode cX4_postBit 3 = .ok (.invokevirtual 113, 3) := by decide +kernel
theorem dX4_postBit_6 : decode cX4_postBit 6 = .ok (.istore_n 3, 1) := by decide +kernel
theorem dX4_postBit_7 : decode cX4_postBit 7 = .ok (.iload_n 3, 1) := by decide +kernel
theorem dX4_postBit_8 : decode cX4_postBit 8 = .ok (.iconst (-1), 1) := by decide +kernel
theorem dX4_postBit_9 : decode cX4_postBit 9 = .ok (.if_icmp .eq 9, 3) := by decide +kernel
theorem dX4_postBit_12 : decode cX4_postBit 12 = .ok (.iload_n 3, 1) := by decide +kernel
theorem dX4_postBit_13 : decode cX4_postBit 13 = .ok (.bipush 10, 2) := by decide +kernel
theorem dX4_postBit_15 : decode cX4_postBit 15 = .ok (.if_icmp .lt 7, 3) := by decide +kernel
theorem dX4_postBit_18 : decode cX4_postBit 18 = .ok (.iconst 0, 1) := by decide +kernel
theorem dX4_postBit_19 : decode cX4_postBit 19 = .ok (.goto 6, 3) := by decide +kernel
theorem dX4_postBit_22 : decode cX4_postBit 22 = .ok (.iconst 1, 1) := by decide +kernel
theorem dX4_postBit_23 : decode cX4_postBit 23 = .ok (.iload_n 3, 1) := by decide +kernel
theorem dX4_postBit_24 : decode cX4_postBit 24 = .ok (.ishl, 1) := by decide +kernel
theorem dX4_postBit_25 : decode cX4_postBit 25 = .ok (.ireturn, 1) := by decide +kernel
theorem dX4_guestsIn_0 : decode cX4_guestsIn 0 = .ok (.aload_n 0, 1) := by decide +kernel
theorem dX4_guestsIn_1 : decode cX4_guestsIn 1 = .ok (.bipush 10, 2) := by decide +kernel
theorem dX4_guestsIn_3 : decode cX4_guestsIn 3 = .ok (.iload_n 1, 1) := by decide +kernel
theorem dX4_guestsIn_4 : decode cX4_guestsIn 4 = .ok (.iadd, 1) := by decide +kernel
theorem dX4_guestsIn_5 : decode cX4_guestsIn 5 = .ok (.iload_n 2, 1) := by decide +kernel
theorem dX4_guestsIn_6 : decode cX4_guestsIn 6 = .ok (.invokevirtual 144, 3) := by decide +kernel
theorem dX4_guestsIn_9 : decode cX4_guestsIn 9 = .ok (.invokestatic 147, 3) := by decide +kernel
theorem dX4_guestsIn_12 : decode cX4_guestsIn 12 = .ok (.ireturn, 1) := by decide +kernel
theorem dX4_firstHourFull_0 : decode cX4_firstHourFull 0 = .ok (.iconst 0, 1) := by decide +kernel
theorem dX4_firstHourFull_1 : decode cX4_firstHourFull 1 = .ok (.istore_n 2, 1) := by decide +kernel
theorem dX4_firstHourFull_2 : decode cX4_firstHourFull 2 = .ok (.iload_n 2, 1) := by decide +kernel
theorem dX4_firstHourFull_3 : decode cX4_firstHourFull 3 = .ok (.aload_n 0, 1) := by decide +kernel
theorem dX4_firstHourFull_4 : decode cX4_firstHourFull 4 = .ok (.getfield 37, 3) := by decide +kernel
theorem dX4_firstHourFull_7 : decode cX4_firstHourFull 7 = .ok (.getfield 57, 3) := by decide +kernel
theorem dX4_firstHourFull_10 : decode cX4_firstHourFull 10 = .ok (.if_icmp .gt 29, 3) := by decide +kernel
theorem dX4_firstHourFull_13 : decode cX4_firstHourFull 13 = .ok (.aload_n 0, 1) := by decide +kernel
theorem dX4_firstHourFull_14 : decode cX4_firstHourFull 14 = .ok (.iload_n 1, 1) := by decide +kernel
theorem dX4_firstHourFull_15 : decode cX4_firstHourFull 15 = .ok (.iload_n 2, 1) := by decide +kernel
theorem dX4_firstHourFull_16 : decode cX4_firstHourFull 16 = .ok (.invokevirtual 153, 3) := by decide +kernel
theorem dX4_firstHourFull_19 : decode cX4_firstHourFull 19 = .ok (.aload_n 0, 1) := by decide +kernel
theorem dX4_firstHourFull_20 : decode cX4_firstHourFull 20 = .ok (.getfield 37, 3) := by decide +kernel
theorem dX4_firstHourFull_23 : decode cX4_firstHourFull 23 = .ok (.getfield 129, 3) := by decide +kernel
theorem dX4_firstHourFull_26 : decode cX4_firstHourFull 26 = .ok (.iload_n 1, 1) := by decide +kernel
theorem dX4_firstHourFull_27 : decode cX4_firstHourFull 27 = .ok (.iaload, 1) := by decide +kernel
theorem dX4_firstHourFull_28 : decode cX4_firstHourFull 28 = .ok (.if_icmp .lt 5, 3) := by decide +kernel
theorem dX4_firstHourFull_31 : decode cX4_firstHourFull 31 = .ok (.iload_n 2, 1) := by decide +kernel
theorem dX4_firstHourFull_32 : decode cX4_firstHourFull 32 = .ok (.ireturn, 1) := by decide +kernel
theorem dX4_firstHourFull_33 : decode cX4_firstHourFull 33 = .ok (.iinc 2 1, 3) := by decide +kernel
theorem dX4_firstHourFull_36 : decode cX4_firstHourFull 36 = .ok (.goto (-34), 3) := by decide +kernel
theorem dX4_firstHourFull_39 : decode cX4_firstHourFull 39 = .ok (.iconst (-1), 1) := by decide +kernel
theorem dX4_firstHourFull_40 : decode cX4_firstHourFull 40 = .ok (.ireturn, 1) := by decide +kernel
theorem dX4_timesRefused_0 : decode cX4_timesRefused 0 = .ok (.iconst 0, 1) := by decide +kernel
theorem dX4_timesRefused_1 : decode cX4_timesRefused 1 = .ok (.istore_n 2, 1) := by decide +kernel
theorem dX4_timesRefused_2 : decode cX4_timesRefused 2 = .ok (.iconst 0, 1) := by decide +kernel
theorem dX4_timesRefused_3 : decode cX4_timesRefused 3 = .ok (.istore_n 3, 1) := by decide +kernel
theorem dX4_timesRefused_4 : decode cX4_timesRefused 4 = .ok (.iload_n 3, 1) := by decide +kernel
theorem dX4_timesRefused_5 : decode cX4_timesRefused 5 = .ok (.aload_n 0, 1) := by decide +kernel
theorem dX4_timesRefused_6 : decode cX4_timesRefused 6 = .ok (.getfield 37, 3) := by decide +kernel
theorem dX4_timesRefused_9 : decode cX4_timesRefused 9 = .ok (.getfield 57, 3) := by decide +kernel
theorem dX4_timesRefused_12 : decode cX4_timesRefused 12 = .ok (.if_icmp .ge 57, 3) := by decide +kernel
theorem dX4_timesRefused_15 : decode cX4_timesRefused 15 = .ok (.iconst 0, 1) := by decide +kernel
theorem dX4_timesRefused_16 : decode cX4_timesRefused 16 = .ok (.istore 4, 2) := by decide +kernel
theorem dX4_timesRefused_18 : decode cX4_timesRefused 18 = .ok (.iload 4, 2) := by decide +kernel
theorem dX4_timesRefused_20 : decode cX4_timesRefused 20 = .ok (.aload_n 0, 1) := by decide +kernel
theorem dX4_timesRefused_21 : decode cX4_timesRefused 21 = .ok (.getfield 37, 3) := by decide +kernel
theorem dX4_timesRefused_24 : decode cX4_timesRefused 24 = .ok (.getfield 64, 3) := by decide +kernel
theorem dX4_timesRefused_27 : decode cX4_timesRefused 27 = .ok (.if_icmp .ge 36, 3) := by decide +kernel
theorem dX4_timesRefused_30 : decode cX4_timesRefused 30 = .ok (.aload_n 0, 1) := by decide +kernel
theorem dX4_timesRefused_31 : decode cX4_timesRefused 31 = .ok (.iload 4, 2) := by decide +kernel
theorem dX4_timesRefused_33 : decode cX4_timesRefused 33 = .ok (.iload_n 3, 1) := by decide +kernel
theorem dX4_timesRefused_34 : decode cX4_timesRefused 34 = .ok (.invokevirtual 132, 3) := by decide +kernel
theorem dX4_timesRefused_37 : decode cX4_timesRefused 37 = .ok (.ifCond .eq 20, 3) := by decide +kernel
theorem dX4_timesRefused_40 : decode cX4_timesRefused 40 = .ok (.aload_n 0, 1) := by decide +kernel
theorem dX4_timesRefused_41 : decode cX4_timesRefused 41 = .ok (.iload 4, 2) := by decide +kernel
theorem dX4_timesRefused_43 : decode cX4_timesRefused 43 = .ok (.iload_n 3, 1) := by decide +kernel
theorem dX4_timesRefused_44 : decode cX4_timesRefused 44 = .ok (.bipush 10, 2) := by decide +kernel
theorem dX4_timesRefused_46 : decode cX4_timesRefused 46 = .ok (.iload_n 1, 1) := by decide +kernel
theorem dX4_timesRefused_47 : decode cX4_timesRefused 47 = .ok (.iadd, 1) := by decide +kernel
theorem dX4_timesRefused_48 : decode cX4_timesRefused 48 = .ok (.invokevirtual 156, 3) := by decide +kernel
theorem dX4_timesRefused_51 : decode cX4_timesRefused 51 = .ok (.ifCond .eq 6, 3) := by decide +kernel
theorem dX4_timesRefused_54 : decode cX4_timesRefused 54 = .ok (.iinc 2 1, 3) := by decide +kernel
theorem dX4_timesRefused_57 : decode cX4_timesRefused 57 = .ok (.iinc 4 1, 3) := by decide +kernel
theorem dX4_timesRefused_60 : decode cX4_timesRefused 60 = .ok (.goto (-42), 3) := by decide +kernel
theorem dX4_timesRefused_63 : decode cX4_timesRefused 63 = .ok (.iinc 3 1, 3) := by decide +kernel
theorem dX4_timesRefused_66 : decode cX4_timesRefused 66 = .ok (.goto (-62), 3) := by decide +kernel
theorem dX4_timesRefused_69 : decode cX4_timesRefused 69 = .ok (.iload_n 2, 1) := by decide +kernel
theorem dX4_timesRefused_70 : decode cX4_timesRefused 70 = .ok (.ireturn, 1) := by decide +kernel
theorem dX4_isRefused_0 : decode cX4_isRefused 0 = .ok (.aload_n 0, 1) := by decide +kernel
theorem dX4_isRefused_1 : decode cX4_isRefused 1 = .ok (.getfield 31, 3) := by decide +kernel
theorem dX4_isRefused_4 : decode cX4_isRefused 4 = .ok (.iload_n 2, 1) := by decide +kernel
theorem dX4_isRefused_5 : decode cX4_isRefused 5 = .ok (.bipush 8, 2) := by decide +kernel
theorem dX4_isRefused_7 : decode cX4_isRefused 7 = .ok (.imul, 1) := by decide +kernel
theorem dX4_isRefused_8 : decode cX4_isRefused 8 = .ok (.iload_n 1, 1) := by decide +kernel
theorem dX4_isRefused_9 : decode cX4_isRefused 9 = .ok (.iadd, 1) := by decide +kernel
theorem dX4_isRefused_10 : decode cX4_isRefused 10 = .ok (.iaload, 1) := by decide +kernel
theorem dX4_isRefused_11 : decode cX4_isRefused 11 = .ok (.istore 4, 2) := by decide +kernel
theorem dX4_isRefused_13 : decode cX4_isRefused 13 = .ok (.aload_n 0, 1) := by decide +kernel
theorem dX4_isRefused_14 : decode cX4_isRefused 14 = .ok (.getfield 37, 3) := by decide +kernel
theorem dX4_isRefused_17 : decode cX4_isRefused 17 = .ok (.aload_n 0, 1) := by decide +kernel
theorem dX4_isRefused_18 : decode cX4_isRefused 18 = .ok (.iload_n 1, 1) := by decide +kernel
theorem dX4_isRefused_19 : decode cX4_isRefused 19 = .ok (.iload_n 2, 1) := by decide +kernel
theorem dX4_isRefused_20 : decode cX4_isRefused 20 = .ok (.invokevirtual 113, 3) := by decide +kernel
theorem dX4_isRefused_23 : decode cX4_isRefused 23 = .ok (.iload 4, 2) := by decide +kernel
theorem dX4_isRefused_25 : decode cX4_isRefused 25 = .ok (.invokevirtual 123, 3) := by decide +kernel
theorem dX4_isRefused_28 : decode cX4_isRefused 28 = .ok (.iload_n 3, 1) := by decide +kernel
theorem dX4_isRefused_29 : decode cX4_isRefused 29 = .ok (.if_icmp .ne 19, 3) := by decide +kernel
theorem dX4_isRefused_32 : decode cX4_isRefused 32 = .ok (.aload_n 0, 1) := by decide +kernel
theorem dX4_isRefused_33 : decode cX4_isRefused 33 = .ok (.iload_n 1, 1) := by decide +kernel
theorem dX4_isRefused_34 : decode cX4_isRefused 34 = .ok (.iload_n 2, 1) := by decide +kernel
theorem dX4_isRefused_35 : decode cX4_isRefused 35 = .ok (.iconst 1, 1) := by decide +kernel
theorem dX4_isRefused_36 : decode cX4_isRefused 36 = .ok (.iadd, 1) := by decide +kernel
theorem dX4_isRefused_37 : decode cX4_isRefused 37 = .ok (.invokevirtual 113, 3) := by decide +kernel
theorem dX4_isRefused_40 : decode cX4_isRefused 40 = .ok (.iload_n 3, 1) := by decide +kernel
theorem dX4_isRefused_41 : decode cX4_isRefused 41 = .ok (.if_icmp .eq 7, 3) := by decide +kernel
theorem dX4_isRefused_44 : decode cX4_isRefused 44 = .ok (.iconst 1, 1) := by decide +kernel
theorem dX4_isRefused_45 : decode cX4_isRefused 45 = .ok (.goto 4, 3) := by decide +kernel
theorem dX4_isRefused_48 : decode cX4_isRefused 48 = .ok (.iconst 0, 1) := by decide +kernel
theorem dX4_isRefused_49 : decode cX4_isRefused 49 = .ok (.ireturn, 1) := by decide +kernel
theorem dX4_firstHourAllInside_0 : decode cX4_firstHourAllInside 0 = .ok (.iconst 1, 1) := by decide +kernel
theorem dX4_firstHourAllInside_1 : decode cX4_firstHourAllInside 1 = .ok (.aload_n 0, 1) := by decide +kernel
theorem dX4_firstHourAllInside_2 : decode cX4_firstHourAllInside 2 = .ok (.getfield 37, 3) := by decide +kernel
theorem dX4_firstHourAllInside_5 : decode cX4_firstHourAllInside 5 = .ok (.getfield 64, 3) := by decide +kernel
theorem dX4_firstHourAllInside_8 : decode cX4_firstHourAllInside 8 = .ok (.ishl, 1) := by decide +kernel
theorem dX4_firstHourAllInside_9 : decode cX4_firstHourAllInside 9 = .ok (.iconst 1, 1) := by decide +kernel
theorem dX4_firstHourAllInside_10 : decode cX4_firstHourAllInside 10 = .ok (.isub, 1) := by decide +kernel
theorem dX4_firstHourAllInside_11 : decode cX4_firstHourAllInside 11 = .ok (.istore_n 1, 1) := by decide +kernel
theorem dX4_firstHourAllInside_12 : decode cX4_firstHourAllInside 12 = .ok (.iconst 0, 1) := by decide +kernel
theorem dX4_firstHourAllInside_13 : decode cX4_firstHourAllInside 13 = .ok (.istore_n 2, 1) := by decide +kernel
theorem dX4_firstHourAllInside_14 : decode cX4_firstHourAllInside 14 = .ok (.iload_n 2, 1) := by decide +kernel
theorem dX4_firstHourAllInside_15 : decode cX4_firstHourAllInside 15 = .ok (.aload_n 0, 1) := by decide +kernel
theorem dX4_firstHourAllInside_16 : decode cX4_firstHourAllInside 16 = .ok (.getfield 37, 3) := by decide +kernel
theorem dX4_firstHourAllInside_19 : decode cX4_firstHourAllInside 19 = .ok (.getfield 57, 3) := by decide +kernel
theorem dX4_firstHourAllInside_22 : decode cX4_firstHourAllInside 22 = .ok (.if_icmp .gt 24, 3) := by decide +kernel
theorem dX4_firstHourAllInside_25 : decode cX4_firstHourAllInside 25 = .ok (.iload_n 1, 1) := by decide +kernel
theorem dX4_firstHourAllInside_26 : decode cX4_firstHourAllInside 26 = .ok (.ifCond .eq 14, 3) := by decide +kernel
theorem dX4_firstHourAllInside_29 : decode cX4_firstHourAllInside 29 = .ok (.aload_n 0, 1) := by decide +kernel
theorem dX4_firstHourAllInside_30 : decode cX4_firstHourAllInside 30 = .ok (.iload_n 2, 1) := by decide +kernel
theorem dX4_firstHourAllInside_31 : decode cX4_firstHourAllInside 31 = .ok (.invokevirtual 160, 3) := by decide +kernel
theorem dX4_firstHourAllInside_34 : decode cX4_firstHourAllInside 34 = .ok (.iload_n 1, 1) := by decide +kernel
theorem dX4_firstHourAllInside_35 : decode cX4_firstHourAllInside 35 = .ok (.if_icmp .ne 5, 3) := by decide +kernel
theorem dX4_firstHourAllInside_38 : decode cX4_firstHourAllInside 38 = .ok (.iload_n 2, 1) := by decide +kernel
theorem dX4_firstHourAllInside_39 : decode cX4_firstHourAllInside 39 = .ok (.ireturn, 1) := by decide +kernel
theorem dX4_firstHourAllInside_40 : decode cX4_firstHourAllInside 40 = .ok (.iinc 2 1, 3) := by decide +kernel
theorem dX4_firstHourAllInside_43 : decode cX4_firstHourAllInside 43 = .ok (.goto (-29), 3) := by decide +kernel
theorem dX4_firstHourAllInside_46 : decode cX4_firstHourAllInside 46 = .ok (.iconst (-1), 1) := by decide +kernel
theorem dX4_firstHourAllInside_47 : decode cX4_firstHourAllInside 47 = .ok (.ireturn, 1) := by decide +kernel
theorem dX4_mostAtOnePost_0 : decode cX4_mostAtOnePost 0 = .ok (.iconst 0, 1) := by decide +kernel
theorem dX4_mostAtOnePost_1 : decode cX4_mostAtOnePost 1 = .ok (.istore_n 2, 1) := by decide +kernel
theorem dX4_mostAtOnePost_2 : decode cX4_mostAtOnePost 2 = .ok (.iconst 0, 1) := by decide +kernel
theorem dX4_mostAtOnePost_3 : decode cX4_mostAtOnePost 3 = .ok (.istore_n 3, 1) := by decide +kernel
theorem dX4_mostAtOnePost_4 : decode cX4_mostAtOnePost 4 = .ok (.iload_n 3, 1) := by decide +kernel
theorem dX4_mostAtOnePost_5 : decode cX4_mostAtOnePost 5 = .ok (.aload_n 0, 1) := by decide +kernel
theorem dX4_mostAtOnePost_6 : decode cX4_mostAtOnePost 6 = .ok (.getfield 37, 3) := by decide +kernel
theorem dX4_mostAtOnePost_9 : decode cX4_mostAtOnePost 9 = .ok (.getfield 87, 3) := by decide +kernel
theorem dX4_mostAtOnePost_12 : decode cX4_mostAtOnePost 12 = .ok (.if_icmp .ge 23, 3) := by decide +kernel
theorem dX4_mostAtOnePost_15 : decode cX4_mostAtOnePost 15 = .ok (.iload_n 2, 1) := by decide +kernel
theorem dX4_mostAtOnePost_16 : decode cX4_mostAtOnePost 16 = .ok (.aload_n 0, 1) := by decide +kernel
theorem dX4_mostAtOnePost_17 : decode cX4_mostAtOnePost 17 = .ok (.iload_n 3, 1) := by decide +kernel
theorem dX4_mostAtOnePost_18 : decode cX4_mostAtOnePost 18 = .ok (.iload_n 1, 1) := by decide +kernel
theorem dX4_mostAtOnePost_19 : decode cX4_mostAtOnePost 19 = .ok (.invokevirtual 144, 3) := by decide +kernel
theorem dX4_mostAtOnePost_22 : decode cX4_mostAtOnePost 22 = .ok (.invokestatic 147, 3) := by decide +kernel
theorem dX4_mostAtOnePost_25 : decode cX4_mostAtOnePost 25 = .ok (.invokestatic 163, 3) := by decide +kernel
theorem dX4_mostAtOnePost_28 : decode cX4_mostAtOnePost 28 = .ok (.istore_n 2, 1) := by decide +kernel
theorem dX4_mostAtOnePost_29 : decode cX4_mostAtOnePost 29 = .ok (.iinc 3 1, 3) := by decide +kernel
theorem dX4_mostAtOnePost_32 : decode cX4_mostAtOnePost 32 = .ok (.goto (-28), 3) := by decide +kernel
theorem dX4_mostAtOnePost_35 : decode cX4_mostAtOnePost 35 = .ok (.iload_n 2, 1) := by decide +kernel
theorem dX4_mostAtOnePost_36 : decode cX4_mostAtOnePost 36 = .ok (.ireturn, 1) := by decide +kernel
theorem dX4_firstHourTogether_0 : decode cX4_firstHourTogether 0 = .ok (.iconst 0, 1) := by decide +kernel
theorem dX4_firstHourTogether_1 : decode cX4_firstHourTogether 1 = .ok (.istore_n 3, 1) := by decide +kernel
theorem dX4_firstHourTogether_2 : decode cX4_firstHourTogether 2 = .ok (.iload_n 3, 1) := by decide +kernel
theorem dX4_firstHourTogether_3 : decode cX4_firstHourTogether 3 = .ok (.aload_n 0, 1) := by decide +kernel
theorem dX4_firstHourTogether_4 : decode cX4_firstHourTogether 4 = .ok (.getfield 37, 3) := by decide +kernel
theorem dX4_firstHourTogether_7 : decode cX4_firstHourTogether 7 = .ok (.getfield 57, 3) := by decide +kernel
theorem dX4_firstHourTogether_10 : decode cX4_firstHourTogether 10 = .ok (.if_icmp .gt 36, 3) := by decide +kernel
theorem dX4_firstHourTogether_13 : decode cX4_firstHourTogether 13 = .ok (.aload_n 0, 1) := by decide +kernel
theorem dX4_firstHourTogether_14 : decode cX4_firstHourTogether 14 = .ok (.iload_n 1, 1) := by decide +kernel
theorem dX4_firstHourTogether_15 : decode cX4_firstHourTogether 15 = .ok (.iload_n 3, 1) := by decide +kernel
theorem dX4_firstHourTogether_16 : decode cX4_firstHourTogether 16 = .ok (.invokevirtual 113, 3) := by decide +kernel
theorem dX4_firstHourTogether_19 : decode cX4_firstHourTogether 19 = .ok (.istore 4, 2) := by decide +kernel
theorem dX4_firstHourTogether_21 : decode cX4_firstHourTogether 21 = .ok (.iload 4, 2) := by decide +kernel
theorem dX4_firstHourTogether_23 : decode cX4_firstHourTogether 23 = .ok (.iconst (-1), 1) := by decide +kernel
theorem dX4_firstHourTogether_24 : decode cX4_firstHourTogether 24 = .ok (.if_icmp .eq 16, 3) := by decide +kernel
theorem dX4_firstHourTogether_27 : decode cX4_firstHourTogether 27 = .ok (.iload 4, 2) := by decide +kernel
theorem dX4_firstHourTogether_29 : decode cX4_firstHourTogether 29 = .ok (.aload_n 0, 1) := by decide +kernel
theorem dX4_firstHourTogether_30 : decode cX4_firstHourTogether 30 = .ok (.iload_n 2, 1) := by decide +kernel
theorem dX4_firstHourTogether_31 : decode cX4_firstHourTogether 31 = .ok (.iload_n 3, 1) := by decide +kernel
theorem dX4_firstHourTogether_32 : decode cX4_firstHourTogether 32 = .ok (.invokevirtual 113, 3) := by decide +kernel
theorem dX4_firstHourTogether_35 : decode cX4_firstHourTogether 35 = .ok (.if_icmp .ne 5, 3) := by decide +kernel
theorem dX4_firstHourTogether_38 : decode cX4_firstHourTogether 38 = .ok (.iload_n 3, 1) := by decide +kernel
theorem dX4_firstHourTogether_39 : decode cX4_firstHourTogether 39 = .ok (.ireturn, 1) := by decide +kernel
theorem dX4_firstHourTogether_40 : decode cX4_firstHourTogether 40 = .ok (.iinc 3 1, 3) := by decide +kernel
theorem dX4_firstHourTogether_43 : decode cX4_firstHourTogether 43 = .ok (.goto (-41), 3) := by decide +kernel
theorem dX4_firstHourTogether_46 : decode cX4_firstHourTogether 46 = .ok (.iconst (-1), 1) := by decide +kernel
theorem dX4_firstHourTogether_47 : decode cX4_firstHourTogether 47 = .ok (.ireturn, 1) := by decide +kernel
theorem dJ7_fill_53178_0 : decode cJ7_fill_53178 0 = .ok (.iconst 0, 1) := by decide +kernel
theorem dJ7_fill_53178_1 : decode cJ7_fill_53178 1 = .ok (.istore_n 2, 1) := by decide +kernel
theorem dJ7_fill_53178_2 : decode cJ7_fill_53178 2 = .ok (.aload_n 0, 1) := by decide +kernel
theorem dJ7_fill_53178_3 : decode cJ7_fill_53178 3 = .ok (.arraylength, 1) := by decide +kernel
theorem dJ7_fill_53178_4 : decode cJ7_fill_53178 4 = .ok (.istore_n 3, 1) := by decide +kernel
theorem dJ7_fill_53178_5 : decode cJ7_fill_53178 5 = .ok (.iload_n 2, 1) := by decide +kernel
theorem dJ7_fill_53178_6 : decode cJ7_fill_53178 6 = .ok (.iload_n 3, 1) := by decide +kernel
theorem dJ7_fill_53178_7 : decode cJ7_fill_53178 7 = .ok (.if_icmp .ge 13, 3) := by decide +kernel
theorem dJ7_fill_53178_10 : decode cJ7_fill_53178 10 = .ok (.aload_n 0, 1) := by decide +kernel
theorem dJ7_fill_53178_11 : decode cJ7_fill_53178 11 = .ok (.iload_n 2, 1) := by decide +kernel
theorem dJ7_fill_53178_12 : decode cJ7_fill_53178 12 = .ok (.iload_n 1, 1) := by decide +kernel
theorem dJ7_fill_53178_13 : decode cJ7_fill_53178 13 = .ok (.iastore, 1) := by decide +kernel
theorem dJ7_fill_53178_14 : decode cJ7_fill_53178 14 = .ok (.iinc 2 1, 3) := by decide +kernel
theorem dJ7_fill_53178_17 : decode cJ7_fill_53178 17 = .ok (.goto (-12), 3) := by decide +kernel
theorem dJ7_fill_53178_20 : decode cJ7_fill_53178 20 = .ok (.return_, 1) := by decide +kernel
theorem layX0 : ∀ k, k < 3 → u_lay RX0 TX0 k ∈ tblG := fun k hk => match k, hk with
  | 0, _ => gw1 77 (by decide +kernel) (by decide +kernel)
  | 1, _ => gw1 79 (by decide +kernel) (by decide +kernel)
  | 2, _ => gw1 81 (by decide +kernel) (by decide +kernel)
  | k + 3, hk => absurd hk (by omega)
theorem clX0 : CLk 0 RX0 TX0 3 tyX0 := ⟨rfl, fun w hw => by
  obtain ⟨k, hk, rfl⟩ := List.mem_map.mp hw
  exact layX0 k (List.mem_range.mp hk), tyX0_ok, nmX0⟩
theorem wd39 : Cond.fieldLink RX0 19 RX0 "times" "[I" ∈ tblG := gw1 76 (by decide +kernel) (by decide +kernel)
theorem fk_X0_19 : FLk RX0 19 0 2 (.array .int) true := ⟨RX0, TX0, 3, tyX0, clX0, by decide, rfl, rfl, rfl, Or.inl wd39⟩
theorem layX4 : ∀ k, k < 9 → u_lay RX4 TX4 k ∈ tblG := fun k hk => match k, hk with
  | 0, _ => gw1 205 (by decide +kernel) (by decide +kernel)
  | 1, _ => gw1 207 (by decide +kernel) (by decide +kernel)
  | 2, _ => gw1 209 (by decide +kernel) (by decide +kernel)
  | 3, _ => gw1 211 (by decide +kernel) (by decide +kernel)
  | 4, _ => gw1 213 (by decide +kernel) (by decide +kernel)
  | 5, _ => gw1 215 (by decide +kernel) (by decide +kernel)
  | 6, _ => gw1 217 (by decide +kernel) (by decide +kernel)
  | 7, _ => gw1 219 (by decide +kernel) (by decide +kernel)
  | 8, _ => gw1 221 (by decide +kernel) (by decide +kernel)
  | k + 9, hk => absurd hk (by omega)
theorem clX4 : CLk 4 RX4 TX4 9 tyX4 := ⟨rfl, fun w hw => by
  obtain ⟨k, hk, rfl⟩ := List.mem_map.mp hw
  exact layX4 k (List.mem_range.mp hk), tyX4_ok, nmX4⟩
theorem wd40 : Cond.fieldLink RX4 25 RX4 "places" "[I" ∈ tblG := gw1 199 (by decide +kernel) (by decide +kernel)
theorem fk_X4_25 : FLk RX4 25 4 5 (.array .int) true := ⟨RX4, TX4, 9, tyX4, clX4, by decide, rfl, rfl, rfl, Or.inl wd40⟩
theorem wd41 : Cond.fieldLink RX4 37 RX4 "heath" "LObligingPosts$Heath;" ∈ tblG := gw1 189 (by decide +kernel) (by decide +kernel)
theorem fk_X4_37 : FLk RX4 37 4 0 (.object "ObligingPosts$Heath") true := ⟨RX4, TX4, 9, tyX4, clX4, by decide, rfl, rfl, rfl, Or.inl wd41⟩
theorem wd42 : Cond.methodLink RX4 90 yX2_hasArm ∈ tblG := gw3 32 (by decide +kernel) (by decide +kernel)
theorem lk_X4_90 : LkV RX4 90 2 yX2_hasArm cX2_hasArm 2 (some .boolean) 1 := ⟨⟨TX2, 16, rfl⟩, wd42, wd21, wd22, wd7, wd23, pl_X2_hasArm⟩
theorem wd43 : Cond.fieldLink RX4 28 RX4 "arms" "[I" ∈ tblG := gw1 201 (by decide +kernel) (by decide +kernel)
theorem fk_X4_28 : FLk RX4 28 4 6 (.array .int) true := ⟨RX4, TX4, 9, tyX4, clX4, by decide, rfl, rfl, rfl, Or.inl wd43⟩
theorem wd44 : Cond.fieldLink RX4 31 RX4 "roadsTaken" "[I" ∈ tblG := gw1 203 (by decide +kernel) (by decide +kernel)
theorem fk_X4_31 : FLk RX4 31 4 7 (.array .int) true := ⟨RX4, TX4, 9, tyX4, clX4, by decide, rfl, rfl, rfl, Or.inl wd44⟩
theorem fk_X4_64 : FLk RX4 64 2 8 (.int) false := ⟨RX2, TX2, 16, tyX2, clX2, by decide, rfl, rfl, rfl, Or.inr ⟨"ObligingPosts", List.mem_of_getElem? (i := 44) (by decide +kernel)⟩⟩
theorem wd45 : Cond.methodLink RX4 113 yX4_placeOf ∈ tblG := gw3 49 (by decide +kernel) (by decide +kernel)
theorem wd46 : Cond.instanceMethod yX4_placeOf ∈ tblG := gw3 50 (by decide +kernel) (by decide +kernel)
theorem wd47 : Cond.selects RX4 yX4_placeOf yX4_placeOf ∈ tblG := gw3 51 (by decide +kernel) (by decide +kernel)
theorem wd48 : Cond.initialized RX4 ∈ tblG := gw1 5 (by decide +kernel) (by decide +kernel)
theorem wd49 : Cond.code yX4_placeOf cX4_placeOf 3 (some .int) ∈ tblG := gw3 52 (by decide +kernel) (by decide +kernel)
theorem pl_X4_placeOf : Plain yX4_placeOf 2 := ⟨by decide, by decide, by decide +kernel⟩
theorem lk_X4_113 : LkV RX4 113 4 yX4_placeOf cX4_placeOf 3 (some .int) 2 := ⟨⟨TX4, 9, rfl⟩, wd45, wd46, wd47, wd48, wd49, pl_X4_placeOf⟩
theorem wd50 : Cond.methodLink RX4 132 yX4_isSent ∈ tblG := gw3 170 (by decide +kernel) (by decide +kernel)
theorem wd51 : Cond.instanceMethod yX4_isSent ∈ tblG := gw3 172 (by decide +kernel) (by decide +kernel)
theorem wd52 : Cond.selects RX4 yX4_isSent yX4_isSent ∈ tblG := gw0 22 (by decide +kernel) (by decide +kernel)
theorem wd53 : Cond.code yX4_isSent cX4_isSent 3 (some .boolean) ∈ tblG := gw3 173 (by decide +kernel) (by decide +kernel)
theorem pl_X4_isSent : Plain yX4_isSent 2 := ⟨by decide, by decide, by decide +kernel⟩
theorem lk_X4_132 : LkV RX4 132 4 yX4_isSent cX4_isSent 3 (some .boolean) 2 := ⟨⟨TX4, 9, rfl⟩, wd50, wd51, wd52, wd48, wd53, pl_X4_isSent⟩
theorem fk_X4_57 : FLk RX4 57 2 1 (.int) false := ⟨RX2, TX2, 16, tyX2, clX2, by decide, rfl, rfl, rfl, Or.inr ⟨"ObligingPosts", List.mem_of_getElem? (i := 43) (by decide +kernel)⟩⟩
theorem fk_X4_135 : FLk RX4 135 2 10 (.array .int) true := ⟨RX2, TX2, 16, tyX2, clX2, by decide, rfl, rfl, rfl, Or.inr ⟨"ObligingPosts", List.mem_of_getElem? (i := 49) (by decide +kernel)⟩⟩
theorem wd54 : Cond.methodLink RX4 138 yX4_timesRoadUsed ∈ tblG := gw3 182 (by decide +kernel) (by decide +kernel)
theorem wd55 : Cond.instanceMethod yX4_timesRoadUsed ∈ tblG := gw3 183 (by decide +kernel) (by decide +kernel)
theorem wd56 : Cond.selects RX4 yX4_timesRoadUsed yX4_timesRoadUsed ∈ tblG := gw3 184 (by decide +kernel) (by decide +kernel)
theorem wd57 : Cond.code yX4_timesRoadUsed cX4_timesRoadUsed 6 (some .int) ∈ tblG := gw3 185 (by decide +kernel) (by decide +kernel)
theorem pl_X4_timesRoadUsed : Plain yX4_timesRoadUsed 2 := ⟨by decide, by decide, by decide +kernel⟩
theorem lk_X4_138 : LkV RX4 138 4 yX4_timesRoadUsed cX4_timesRoadUsed 6 (some .int) 2 := ⟨⟨TX4, 9, rfl⟩, wd54, wd55, wd56, wd48, wd57, pl_X4_timesRoadUsed⟩
theorem wd58 : Cond.methodLink RX4 141 yX4_postBit ∈ tblG := gw3 219 (by decide +kernel) (by decide +kernel)
theorem wd59 : Cond.instanceMethod yX4_postBit ∈ tblG := gw3 221 (by decide +kernel) (by decide +kernel)
theorem wd60 : Cond.selects RX4 yX4_postBit yX4_postBit ∈ tblG := gw0 23 (by decide +kernel) (by decide +kernel)
theorem wd61 : Cond.code yX4_postBit cX4_postBit 4 (some .int) ∈ tblG := gw3 222 (by decide +kernel) (by decide +kernel)
theorem pl_X4_postBit : Plain yX4_postBit 2 := ⟨by decide, by decide, by decide +kernel⟩
theorem lk_X4_141 : LkV RX4 141 4 yX4_postBit cX4_postBit 4 (some .int) 2 := ⟨⟨TX4, 9, rfl⟩, wd58, wd59, wd60, wd48, wd61, pl_X4_postBit⟩
theorem wd62 : Cond.methodLink RX4 144 yX4_walkersAt ∈ tblG := gw4 16 (by decide +kernel) (by decide +kernel)
theorem wd63 : Cond.instanceMethod yX4_walkersAt ∈ tblG := gw3 154 (by decide +kernel) (by decide +kernel)
theorem wd64 : Cond.selects RX4 yX4_walkersAt yX4_walkersAt ∈ tblG := gw3 155 (by decide +kernel) (by decide +kernel)
theorem wd65 : Cond.code yX4_walkersAt cX4_walkersAt 5 (some .int) ∈ tblG := gw3 156 (by decide +kernel) (by decide +kernel)
theorem pl_X4_walkersAt : Plain yX4_walkersAt 2 := ⟨by decide, by decide, by decide +kernel⟩
theorem lk_X4_144 : LkV RX4 144 4 yX4_walkersAt cX4_walkersAt 5 (some .int) 2 := ⟨⟨TX4, 9, rfl⟩, wd62, wd63, wd64, wd48, wd65, pl_X4_walkersAt⟩
theorem wd66 : Cond.methodLink RX4 147 yJ6_bitCount_0f7a4 ∈ tblG := gw4 17 (by decide +kernel) (by decide +kernel)
theorem wd67 : Cond.static yJ6_bitCount_0f7a4 ∈ tblG := gw4 18 (by decide +kernel) (by decide +kernel)
theorem wd68 : Cond.initialized RJ6 ∈ tblG := gw1 16 (by decide +kernel) (by decide +kernel)
theorem wd69 : Cond.code yJ6_bitCount_0f7a4 cJ6_bitCount_0f7a4 1 (some .int) ∈ tblG := gw4 19 (by decide +kernel) (by decide +kernel)
theorem pl_J6_bitCount_0f7a4 : Plain yJ6_bitCount_0f7a4 1 := ⟨by decide, by decide, by decide +kernel⟩
theorem lk_X4_147 : LkS RX4 147 yJ6_bitCount_0f7a4 cJ6_bitCount_0f7a4 1 (some .int) 1 := ⟨wd66, wd67, wd68, wd69, pl_J6_bitCount_0f7a4⟩
theorem wd70 : Cond.methodLink RX4 153 yX4_guestsIn ∈ tblG := gw4 31 (by decide +kernel) (by decide +kernel)
theorem wd71 : Cond.instanceMethod yX4_guestsIn ∈ tblG := gw4 13 (by decide +kernel) (by decide +kernel)
theorem wd72 : Cond.selects RX4 yX4_guestsIn yX4_guestsIn ∈ tblG := gw4 14 (by decide +kernel) (by decide +kernel)
theorem wd73 : Cond.code yX4_guestsIn cX4_guestsIn 3 (some .int) ∈ tblG := gw4 15 (by decide +kernel) (by decide +kernel)
theorem pl_X4_guestsIn : Plain yX4_guestsIn 2 := ⟨by decide, by decide, by decide +kernel⟩
theorem lk_X4_153 : LkV RX4 153 4 yX4_guestsIn cX4_guestsIn 3 (some .int) 2 := ⟨⟨TX4, 9, rfl⟩, wd70, wd71, wd72, wd48, wd73, pl_X4_guestsIn⟩
theorem fk_X4_129 : FLk RX4 129 2 9 (.array .int) true := ⟨RX2, TX2, 16, tyX2, clX2, by decide, rfl, rfl, rfl, Or.inr ⟨"ObligingPosts", List.mem_of_getElem? (i := 48) (by decide +kernel)⟩⟩
theorem wd74 : Cond.methodLink RX4 160 yX4_walkersInside ∈ tblG := gw4 69 (by decide +kernel) (by decide +kernel)
theorem wd75 : Cond.instanceMethod yX4_walkersInside ∈ tblG := gw4 49 (by decide +kernel) (by decide +kernel)
theorem wd76 : Cond.selects RX4 yX4_walkersInside yX4_walkersInside ∈ tblG := gw4 50 (by decide +kernel) (by decide +kernel)
theorem wd77 : Cond.code yX4_walkersInside cX4_walkersInside 4 (some .int) ∈ tblG := gw4 51 (by decide +kernel) (by decide +kernel)
theorem pl_X4_walkersInside : Plain yX4_walkersInside 1 := ⟨by decide, by decide, by decide +kernel⟩
theorem lk_X4_160 : LkV RX4 160 4 yX4_walkersInside cX4_walkersInside 4 (some .int) 1 := ⟨⟨TX4, 9, rfl⟩, wd74, wd75, wd76, wd48, wd77, pl_X4_walkersInside⟩
theorem fk_X4_87 : FLk RX4 87 2 5 (.int) false := ⟨RX2, TX2, 16, tyX2, clX2, by decide, rfl, rfl, rfl, Or.inr ⟨"ObligingPosts", List.mem_of_getElem? (i := 46) (by decide +kernel)⟩⟩
theorem wd78 : Cond.methodLink RX4 163 yJ9_max_7cf53 ∈ tblG := gw4 78 (by decide +kernel) (by decide +kernel)
theorem wd79 : Cond.static yJ9_max_7cf53 ∈ tblG := gw4 79 (by decide +kernel) (by decide +kernel)
theorem wd80 : Cond.initialized RJ9 ∈ tblG := gw1 10 (by decide +kernel) (by decide +kernel)
theorem wd81 : Cond.code yJ9_max_7cf53 cJ9_max_7cf53 2 (some .int) ∈ tblG := gw4 80 (by decide +kernel) (by decide +kernel)
theorem wd82 : Cond.fieldLink RX4 21 RX4 "comings" "[I" ∈ tblG := gw1 197 (by decide +kernel) (by decide +kernel)
theorem fk_X4_21 : FLk RX4 21 4 4 (.array .int) true := ⟨RX4, TX4, 9, tyX4, clX4, by decide, rfl, rfl, rfl, Or.inl wd82⟩
theorem fk_X4_41 : FLk RX4 41 2 2 (.int) false := ⟨RX2, TX2, 16, tyX2, clX2, by decide, rfl, rfl, rfl, Or.inr ⟨"ObligingPosts", List.mem_of_getElem? (i := 40) (by decide +kernel)⟩⟩
theorem wd83 : Cond.fieldLink RX4 9 RX4 "law" "I" ∈ tblG := gw1 190 (by decide +kernel) (by decide +kernel)
theorem fk_X4_9 : FLk RX4 9 4 1 (.int) false := ⟨RX4, TX4, 9, tyX4, clX4, by decide, rfl, rfl, rfl, Or.inl wd83⟩
theorem wd84 : Cond.fieldLink RX4 15 RX4 "turning" "I" ∈ tblG := gw1 192 (by decide +kernel) (by decide +kernel)
theorem fk_X4_15 : FLk RX4 15 4 2 (.int) false := ⟨RX4, TX4, 9, tyX4, clX4, by decide, rfl, rfl, rfl, Or.inl wd84⟩
theorem wd85 : Cond.fieldLink RX4 18 RX4 "foggy" "I" ∈ tblG := gw1 194 (by decide +kernel) (by decide +kernel)
theorem fk_X4_18 : FLk RX4 18 4 3 (.int) false := ⟨RX4, TX4, 9, tyX4, clX4, by decide, rfl, rfl, rfl, Or.inl wd85⟩
theorem fk_X4_44 : FLk RX4 44 2 14 (.array .int) true := ⟨RX2, TX2, 16, tyX2, clX2, by decide, rfl, rfl, rfl, Or.inr ⟨"ObligingPosts", List.mem_of_getElem? (i := 41) (by decide +kernel)⟩⟩
theorem wd86 : Cond.methodLink RX4 45 arraycopyName ∈ tblG := gw3 15 (by decide +kernel) (by decide +kernel)
theorem wd87 : Cond.native arraycopyName ∈ tblG := gw2 237 (by decide +kernel) (by decide +kernel)
theorem wd88 : Cond.static arraycopyName ∈ tblG := gw2 236 (by decide +kernel) (by decide +kernel)
theorem wd89 : Cond.initialized RJ10 ∈ tblG := gw1 15 (by decide +kernel) (by decide +kernel)
theorem fk_X4_51 : FLk RX4 51 2 12 (.array .int) true := ⟨RX2, TX2, 16, tyX2, clX2, by decide, rfl, rfl, rfl, Or.inr ⟨"ObligingPosts", List.mem_of_getElem? (i := 42) (by decide +kernel)⟩⟩
theorem fk_X4_67 : FLk RX4 67 2 13 (.array .int) true := ⟨RX2, TX2, 16, tyX2, clX2, by decide, rfl, rfl, rfl, Or.inr ⟨"ObligingPosts", List.mem_of_getElem? (i := 45) (by decide +kernel)⟩⟩
theorem fk_X4_94 : FLk RX4 94 2 15 (.object "ObligingPosts$Acts") true := ⟨RX2, TX2, 16, tyX2, clX2, by decide, rfl, rfl, rfl, Or.inr ⟨"ObligingPosts", List.mem_of_getElem? (i := 47) (by decide +kernel)⟩⟩
theorem wd90 : Cond.methodLink RX4 98 yX0_timesTurned ∈ tblG := gw3 36 (by decide +kernel) (by decide +kernel)
theorem wd91 : Cond.instanceMethod yX0_timesTurned ∈ tblG := gw3 37 (by decide +kernel) (by decide +kernel)
theorem wd92 : Cond.selects RX0 yX0_timesTurned yX0_timesTurned ∈ tblG := gw3 38 (by decide +kernel) (by decide +kernel)
theorem wd93 : Cond.initialized RX0 ∈ tblG := gw1 4 (by decide +kernel) (by decide +kernel)
theorem wd94 : Cond.code yX0_timesTurned cX0_timesTurned 3 (some .int) ∈ tblG := gw3 39 (by decide +kernel) (by decide +kernel)
theorem pl_X0_timesTurned : Plain yX0_timesTurned 2 := ⟨by decide, by decide, by decide +kernel⟩
theorem lk_X4_98 : LkV RX4 98 0 yX0_timesTurned cX0_timesTurned 3 (some .int) 2 := ⟨⟨TX0, 3, rfl⟩, wd90, wd91, wd92, wd93, wd94, pl_X0_timesTurned⟩
theorem wd95 : Cond.methodLink RX4 104 yX2_nextRoad ∈ tblG := gw3 40 (by decide +kernel) (by decide +kernel)
theorem wd96 : Cond.instanceMethod yX2_nextRoad ∈ tblG := gw3 41 (by decide +kernel) (by decide +kernel)
theorem wd97 : Cond.selects RX2 yX2_nextRoad yX2_nextRoad ∈ tblG := gw3 42 (by decide +kernel) (by decide +kernel)
theorem wd98 : Cond.code yX2_nextRoad cX2_nextRoad 3 (some .int) ∈ tblG := gw3 43 (by decide +kernel) (by decide +kernel)
theorem pl_X2_nextRoad : Plain yX2_nextRoad 2 := ⟨by decide, by decide, by decide +kernel⟩
theorem lk_X4_104 : LkV RX4 104 2 yX2_nextRoad cX2_nextRoad 3 (some .int) 2 := ⟨⟨TX2, 16, rfl⟩, wd95, wd96, wd97, wd7, wd98, pl_X2_nextRoad⟩
theorem wd99 : Cond.fieldLink RX4 34 RX4 "guests" "[I" ∈ tblG := gw1 204 (by decide +kernel) (by decide +kernel)
theorem fk_X4_34 : FLk RX4 34 4 8 (.array .int) true := ⟨RX4, TX4, 9, tyX4, clX4, by decide, rfl, rfl, rfl, Or.inl wd99⟩
theorem wd100 : Cond.methodLink RX4 107 yJ7_fill_53178 ∈ tblG := gw3 48 (by decide +kernel) (by decide +kernel)
theorem wd101 : Cond.static yJ7_fill_53178 ∈ tblG := gw2 86 (by decide +kernel) (by decide +kernel)
theorem wd102 : Cond.initialized RJ7 ∈ tblG := gw1 9 (by decide +kernel) (by decide +kernel)
theorem wd103 : Cond.code yJ7_fill_53178 cJ7_fill_53178 4 none ∈ tblG := gw2 87 (by decide +kernel) (by decide +kernel)
theorem pl_J7_fill_53178 : Plain yJ7_fill_53178 2 := ⟨by decide, by decide, by decide +kernel⟩
theorem lk_X4_107 : LkS RX4 107 yJ7_fill_53178 cJ7_fill_53178 4 none 2 := ⟨wd100, wd101, wd102, wd103, pl_J7_fill_53178⟩
theorem wd104 : Cond.methodLink RX4 116 yX0_isHeld ∈ tblG := gw3 57 (by decide +kernel) (by decide +kernel)
theorem wd105 : Cond.instanceMethod yX0_isHeld ∈ tblG := gw3 58 (by decide +kernel) (by decide +kernel)
theorem wd106 : Cond.selects RX0 yX0_isHeld yX0_isHeld ∈ tblG := gw3 59 (by decide +kernel) (by decide +kernel)
theorem wd107 : Cond.code yX0_isHeld cX0_isHeld 3 (some .boolean) ∈ tblG := gw3 60 (by decide +kernel) (by decide +kernel)
theorem pl_X0_isHeld : Plain yX0_isHeld 2 := ⟨by decide, by decide, by decide +kernel⟩
theorem lk_X4_116 : LkV RX4 116 0 yX0_isHeld cX0_isHeld 3 (some .boolean) 2 := ⟨⟨TX0, 3, rfl⟩, wd104, wd105, wd106, wd93, wd107, pl_X0_isHeld⟩
theorem wd108 : Cond.methodLink RX4 119 yX2_sendBy ∈ tblG := gw3 65 (by decide +kernel) (by decide +kernel)
theorem wd109 : Cond.instanceMethod yX2_sendBy ∈ tblG := gw3 66 (by decide +kernel) (by decide +kernel)
theorem wd110 : Cond.selects RX2 yX2_sendBy yX2_sendBy ∈ tblG := gw3 67 (by decide +kernel) (by decide +kernel)
theorem wd111 : Cond.code yX2_sendBy cX2_sendBy 7 (some .int) ∈ tblG := gw3 68 (by decide +kernel) (by decide +kernel)
theorem pl_X2_sendBy : Plain yX2_sendBy 4 := ⟨by decide, by decide, by decide +kernel⟩
theorem lk_X4_119 : LkV RX4 119 2 yX2_sendBy cX2_sendBy 7 (some .int) 4 := ⟨⟨TX2, 16, rfl⟩, wd108, wd109, wd110, wd7, wd111, pl_X2_sendBy⟩
theorem wd112 : Cond.methodLink RX4 123 yX2_goal ∈ tblG := gw3 69 (by decide +kernel) (by decide +kernel)
theorem lk_X4_123 : LkV RX4 123 2 yX2_goal cX2_goal 3 (some .int) 2 := ⟨⟨TX2, 16, rfl⟩, wd112, wd17, wd18, wd7, wd19, pl_X2_goal⟩
theorem wd113 : Cond.methodLink RX4 126 yX4_letsIn ∈ tblG := gw3 73 (by decide +kernel) (by decide +kernel)
theorem wd114 : Cond.instanceMethod yX4_letsIn ∈ tblG := gw3 75 (by decide +kernel) (by decide +kernel)
theorem wd115 : Cond.selects RX4 yX4_letsIn yX4_letsIn ∈ tblG := gw0 20 (by decide +kernel) (by decide +kernel)
theorem wd116 : Cond.code yX4_letsIn cX4_letsIn 3 (some .boolean) ∈ tblG := gw3 76 (by decide +kernel) (by decide +kernel)
theorem pl_X4_letsIn : Plain yX4_letsIn 1 := ⟨by decide, by decide, by decide +kernel⟩
theorem lk_X4_126 : LkV RX4 126 4 yX4_letsIn cX4_letsIn 3 (some .boolean) 1 := ⟨⟨TX4, 9, rfl⟩, wd113, wd114, wd115, wd48, wd116, pl_X4_letsIn⟩
theorem wd117 : Cond.methodLink RX4 70 yX4_turnByActs ∈ tblG := gw3 28 (by decide +kernel) (by decide +kernel)
theorem wd118 : Cond.instanceMethod yX4_turnByActs ∈ tblG := gw3 30 (by decide +kernel) (by decide +kernel)
theorem wd119 : Cond.selects RX4 yX4_turnByActs yX4_turnByActs ∈ tblG := gw0 16 (by decide +kernel) (by decide +kernel)
theorem wd120 : Cond.code yX4_turnByActs cX4_turnByActs 6 none ∈ tblG := gw3 31 (by decide +kernel) (by decide +kernel)
theorem pl_X4_turnByActs : Plain yX4_turnByActs 1 := ⟨by decide, by decide, by decide +kernel⟩
theorem lk_X4_70 : LkV RX4 70 4 yX4_turnByActs cX4_turnByActs 6 none 1 := ⟨⟨TX4, 9, rfl⟩, wd117, wd118, wd119, wd48, wd120, pl_X4_turnByActs⟩
theorem wd121 : Cond.methodLink RX4 73 yX4_countGuests ∈ tblG := gw3 44 (by decide +kernel) (by decide +kernel)
theorem wd122 : Cond.instanceMethod yX4_countGuests ∈ tblG := gw3 46 (by decide +kernel) (by decide +kernel)
theorem wd123 : Cond.selects RX4 yX4_countGuests yX4_countGuests ∈ tblG := gw0 17 (by decide +kernel) (by decide +kernel)
theorem wd124 : Cond.code yX4_countGuests cX4_countGuests 4 none ∈ tblG := gw3 47 (by decide +kernel) (by decide +kernel)
theorem pl_X4_countGuests : Plain yX4_countGuests 1 := ⟨by decide, by decide, by decide +kernel⟩
theorem lk_X4_73 : LkV RX4 73 4 yX4_countGuests cX4_countGuests 4 none 1 := ⟨⟨TX4, 9, rfl⟩, wd121, wd122, wd123, wd48, wd124, pl_X4_countGuests⟩
theorem wd125 : Cond.methodLink RX4 76 yX4_isSentFrom ∈ tblG := gw3 53 (by decide +kernel) (by decide +kernel)
theorem wd126 : Cond.instanceMethod yX4_isSentFrom ∈ tblG := gw3 55 (by decide +kernel) (by decide +kernel)
theorem wd127 : Cond.selects RX4 yX4_isSentFrom yX4_isSentFrom ∈ tblG := gw0 18 (by decide +kernel) (by decide +kernel)
theorem wd128 : Cond.code yX4_isSentFrom cX4_isSentFrom 4 (some .boolean) ∈ tblG := gw3 56 (by decide +kernel) (by decide +kernel)
theorem pl_X4_isSentFrom : Plain yX4_isSentFrom 2 := ⟨by decide, by decide, by decide +kernel⟩
theorem lk_X4_76 : LkV RX4 76 4 yX4_isSentFrom cX4_isSentFrom 4 (some .boolean) 2 := ⟨⟨TX4, 9, rfl⟩, wd125, wd126, wd127, wd48, wd128, pl_X4_isSentFrom⟩
theorem wd129 : Cond.methodLink RX4 84 yX4_stayOn ∈ tblG := gw3 77 (by decide +kernel) (by decide +kernel)
theorem wd130 : Cond.instanceMethod yX4_stayOn ∈ tblG := gw3 79 (by decide +kernel) (by decide +kernel)
theorem wd131 : Cond.selects RX4 yX4_stayOn yX4_stayOn ∈ tblG := gw0 21 (by decide +kernel) (by decide +kernel)
theorem wd132 : Cond.code yX4_stayOn cX4_stayOn 4 none ∈ tblG := gw3 80 (by decide +kernel) (by decide +kernel)
theorem pl_X4_stayOn : Plain yX4_stayOn 2 := ⟨by decide, by decide, by decide +kernel⟩
theorem lk_X4_84 : LkV RX4 84 4 yX4_stayOn cX4_stayOn 4 none 2 := ⟨⟨TX4, 9, rfl⟩, wd129, wd130, wd131, wd48, wd132, pl_X4_stayOn⟩
theorem wd133 : Cond.methodLink RX4 80 yX4_sendOn ∈ tblG := gw3 61 (by decide +kernel) (by decide +kernel)
theorem wd134 : Cond.instanceMethod yX4_sendOn ∈ tblG := gw3 63 (by decide +kernel) (by decide +kernel)
theorem wd135 : Cond.selects RX4 yX4_sendOn yX4_sendOn ∈ tblG := gw0 19 (by decide +kernel) (by decide +kernel)
theorem wd136 : Cond.code yX4_sendOn cX4_sendOn 7 none ∈ tblG := gw3 64 (by decide +kernel) (by decide +kernel)
theorem pl_X4_sendOn : Plain yX4_sendOn 2 := ⟨by decide, by decide, by decide +kernel⟩
theorem lk_X4_80 : LkV RX4 80 4 yX4_sendOn cX4_sendOn 7 none 2 := ⟨⟨TX4, 9, rfl⟩, wd133, wd134, wd135, wd48, wd136, pl_X4_sendOn⟩
theorem wd137 : Cond.methodLink RX4 54 yX4_begin ∈ tblG := gw3 20 (by decide +kernel) (by decide +kernel)
theorem wd138 : Cond.instanceMethod yX4_begin ∈ tblG := gw3 21 (by decide +kernel) (by decide +kernel)
theorem wd139 : Cond.selects RX4 yX4_begin yX4_begin ∈ tblG := gw3 22 (by decide +kernel) (by decide +kernel)
theorem wd140 : Cond.code yX4_begin cX4_begin 2 none ∈ tblG := gw3 23 (by decide +kernel) (by decide +kernel)
theorem pl_X4_begin : Plain yX4_begin 0 := ⟨by decide, by decide, by decide +kernel⟩
theorem lk_X4_54 : LkV RX4 54 4 yX4_begin cX4_begin 2 none 0 := ⟨⟨TX4, 9, rfl⟩, wd137, wd138, wd139, wd48, wd140, pl_X4_begin⟩
theorem wd141 : Cond.methodLink RX4 60 yX4_passHour ∈ tblG := gw3 24 (by decide +kernel) (by decide +kernel)
theorem wd142 : Cond.instanceMethod yX4_passHour ∈ tblG := gw3 25 (by decide +kernel) (by decide +kernel)
theorem wd143 : Cond.selects RX4 yX4_passHour yX4_passHour ∈ tblG := gw3 26 (by decide +kernel) (by decide +kernel)
theorem wd144 : Cond.code yX4_passHour cX4_passHour 3 none ∈ tblG := gw3 27 (by decide +kernel) (by decide +kernel)
theorem pl_X4_passHour : Plain yX4_passHour 1 := ⟨by decide, by decide, by decide +kernel⟩
theorem lk_X4_60 : LkV RX4 60 4 yX4_passHour cX4_passHour 3 none 1 := ⟨⟨TX4, 9, rfl⟩, wd141, wd142, wd143, wd48, wd144, pl_X4_passHour⟩
theorem wd145 : Cond.methodLink RX4 156 yX4_isRefused ∈ tblG := gw4 40 (by decide +kernel) (by decide +kernel)
theorem wd146 : Cond.instanceMethod yX4_isRefused ∈ tblG := gw4 42 (by decide +kernel) (by decide +kernel)
theorem wd147 : Cond.selects RX4 yX4_isRefused yX4_isRefused ∈ tblG := gw0 24 (by decide +kernel) (by decide +kernel)
theorem wd148 : Cond.code yX4_isRefused cX4_isRefused 5 (some .boolean) ∈ tblG := gw4 43 (by decide +kernel) (by decide +kernel)
theorem pl_X4_isRefused : Plain yX4_isRefused 3 := ⟨by decide, by decide, by decide +kernel⟩
theorem lk_X4_156 : LkV RX4 156 4 yX4_isRefused cX4_isRefused 5 (some .boolean) 3 := ⟨⟨TX4, 9, rfl⟩, wd145, wd146, wd147, wd48, wd148, pl_X4_isRefused⟩
