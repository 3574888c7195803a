theorem dX7_back_0 : decode cX7_back 0 = .ok (.iload_n 1, 1) := by decide +kernel
theorem dX7_back_1 : decode cX7_back 1 = .ok (.ifCond .lt 8, 3) := by decide +kernel
theorem dX7_back_4 : decode cX7_back 4 = .ok (.iload_n 1, 1) := by decide +kernel
theorem dX7_back_5 : decode cX7_back 5 = .ok (.iconst 3, 1) := by decide +kernel
theorem dX7_back_6 : decode cX7_back 6 = .ok (.if_icmp .lt 6, 3) := by decide +kernel
theorem dX7_back_9 : decode cX7_back 9 = .ok (.bipush (-2), 2) := by decide +kernel
theorem dX7_back_11 : decode cX7_back 11 = .ok (.ireturn, 1) := by decide +kernel
theorem dX7_back_12 : decode cX7_back 12 = .ok (.aload_n 0, 1) := by decide +kernel
theorem dX7_back_13 : decode cX7_back 13 = .ok (.getfield 26, 3) := by decide +kernel
theorem dX7_back_16 : decode cX7_back 16 = .ok (.iload_n 1, 1) := by decide +kernel
theorem dX7_back_17 : decode cX7_back 17 = .ok (.aaload, 1) := by decide +kernel
theorem dX7_back_18 : decode cX7_back 18 = .ok (.ifnonnull 6, 3) := by decide +kernel
theorem dX7_back_21 : decode cX7_back 21 = .ok (.bipush (-6), 2) := by decide +kernel
theorem dX7_back_23 : decode cX7_back 23 = .ok (.ireturn, 1) := by decide +kernel
theorem dX7_back_24 : decode cX7_back 24 = .ok (.aload_n 0, 1) := by decide +kernel
theorem dX7_back_25 : decode cX7_back 25 = .ok (.getfield 19, 3) := by decide +kernel
theorem dX7_back_28 : decode cX7_back 28 = .ok (.aload_n 0, 1) := by decide +kernel
theorem dX7_back_29 : decode cX7_back 29 = .ok (.getfield 26, 3) := by decide +kernel
theorem dX7_back_32 : decode cX7_back 32 = .ok (.iload_n 1, 1) := by decide +kernel
theorem dX7_back_33 : decode cX7_back 33 = .ok (.aaload, 1) := by decide +kernel
theorem dX7_back_34 : decode cX7_back 34 = .ok (.invokevirtual 87, 3) := by decide +kernel
theorem dX7_back_37 : decode cX7_back 37 = .ok (.aload_n 0, 1) := by decide +kernel
theorem dX7_back_38 : decode cX7_back 38 = .ok (.invokevirtual 90, 3) := by decide +kernel
theorem dX7_back_41 : decode cX7_back 41 = .ok (.iconst 0, 1) := by decide +kernel
theorem dX7_back_42 : decode cX7_back 42 = .ok (.ireturn, 1) := by decide +kernel
theorem dX7_write_0 : decode cX7_write 0 = .ok (.iload_n 1, 1) := by decide +kernel
theorem dX7_write_1 : decode cX7_write 1 = .ok (.invokestatic 389, 3) := by decide +kernel
theorem dX7_write_4 : decode cX7_write 4 = .ok (.ifCond .ne 6, 3) := by decide +kernel
theorem dX7_write_7 : decode cX7_write 7 = .ok (.bipush (-2), 2) := by decide +kernel
theorem dX7_write_9 : decode cX7_write 9 = .ok (.ireturn, 1) := by decide +kernel
theorem dX7_write_10 : decode cX7_write 10 = .ok (.aload_n 0, 1) := by decide +kernel
theorem dX7_write_11 : decode cX7_write 11 = .ok (.getfield 32, 3) := by decide +kernel
theorem dX7_write_14 : decode cX7_write 14 = .ok (.iload_n 1, 1) := by decide +kernel
theorem dX7_write_15 : decode cX7_write 15 = .ok (.aaload, 1) := by decide +kernel
theorem dX7_write_16 : decode cX7_write 16 = .ok (.ifnonnull 6, 3) := by decide +kernel
theorem dX7_write_19 : decode cX7_write 19 = .ok (.bipush (-6), 2) := by decide +kernel
theorem dX7_write_21 : decode cX7_write 21 = .ok (.ireturn, 1) := by decide +kernel
theorem dX7_write_22 : decode cX7_write 22 = .ok (.iload_n 2, 1) := by decide +kernel
theorem dX7_write_23 : decode cX7_write 23 = .ok (.ifCond .lt 16, 3) := by decide +kernel
theorem dX7_write_26 : decode cX7_write 26 = .ok (.iload_n 2, 1) := by decide +kernel
theorem dX7_write_27 : decode cX7_write 27 = .ok (.aload_n 0, 1) := by decide +kernel
theorem dX7_write_28 : decode cX7_write 28 = .ok (.getfield 32, 3) := by decide +kernel
theorem dX7_write_31 : decode cX7_write 31 = .ok (.iload_n 1, 1) := by decide +kernel
theorem dX7_write_32 : decode cX7_write 32 = .ok (.aaload, 1) := by decide +kernel
theorem dX7_write_33 : decode cX7_write 33 = .ok (.getfield 395, 3) := by decide +kernel
theorem dX7_write_36 : decode cX7_write 36 = .ok (.if_icmp .lt 6, 3) := by decide +kernel
theorem dX7_write_39 : decode cX7_write 39 = .ok (.bipush (-7), 2) := by decide +kernel
theorem dX7_write_41 : decode cX7_write 41 = .ok (.ireturn, 1) := by decide +kernel
theorem dX7_write_42 : decode cX7_write 42 = .ok (.aload_n 0, 1) := by decide +kernel
theorem dX7_write_43 : decode cX7_write 43 = .ok (.getfield 32, 3) := by decide +kernel
theorem dX7_write_46 : decode cX7_write 46 = .ok (.iload_n 1, 1) := by decide +kernel
theorem dX7_write_47 : decode cX7_write 47 = .ok (.aaload, 1) := by decide +kernel
theorem dX7_write_48 : decode cX7_write 48 = .ok (.iload_n 2, 1) := by decide +kernel
theorem dX7_write_49 : decode cX7_write 49 = .ok (.lload_n 3, 1) := by decide +kernel
theorem dX7_write_50 : decode cX7_write 50 = .ok (.invokevirtual 396, 3) := by decide +kernel
theorem dX7_write_53 : decode cX7_write 53 = .ok (.iconst 0, 1) := by decide +kernel
theorem dX7_write_54 : decode cX7_write 54 = .ok (.ireturn, 1) := by decide +kernel
theorem dX7_paste_0 : decode cX7_paste 0 = .ok (.iload_n 1, 1) := by decide +kernel
theorem dX7_paste_1 : decode cX7_paste 1 = .ok (.invokestatic 389, 3) := by decide +kernel
theorem dX7_paste_4 : decode cX7_paste 4 = .ok (.ifCond .eq 10, 3) := by decide +kernel
theorem dX7_paste_7 : decode cX7_paste 7 = .ok (.iload_n 3, 1) := by decide +kernel
theorem dX7_paste_8 : decode cX7_paste 8 = .ok (.invokestatic 389, 3) := by decide +kernel
theorem dX7_paste_11 : decode cX7_paste 11 = .ok (.ifCond .ne 6, 3) := by decide +kernel
theorem dX7_paste_14 : decode cX7_paste 14 = .ok (.bipush (-2), 2) := by decide +kernel
theorem dX7_paste_16 : decode cX7_paste 16 = .ok (.ireturn, 1) := by decide +kernel
theorem dX7_paste_17 : decode cX7_paste 17 = .ok (.aload_n 0, 1) := by decide +kernel
theorem dX7_paste_18 : decode cX7_paste 18 = .ok (.getfield 32, 3) := by decide +kernel
theorem dX7_paste_21 : decode cX7_paste 21 = .ok (.iload_n 1, 1) := by decide +kernel
theorem dX7_paste_22 : decode cX7_paste 22 = .ok (.aaload, 1) := by decide +kernel
theorem dX7_paste_23 : decode cX7_paste 23 = .ok (.astore 6, 2) := by decide +kernel
theorem dX7_paste_25 : decode cX7_paste 25 = .ok (.aload_n 0, 1) := by decide +kernel
theorem dX7_paste_26 : decode cX7_paste 26 = .ok (.getfield 32, 3) := by decide +kernel
theorem dX7_paste_29 : decode cX7_paste 29 = .ok (.iload_n 3, 1) := by decide +kernel
theorem dX7_paste_30 : decode cX7_paste 30 = .ok (.aaload, 1) := by decide +kernel
theorem dX7_paste_31 : decode cX7_paste 31 = .ok (.astore 7, 2) := by decide +kernel
theorem dX7_paste_33 : decode cX7_paste 33 = .ok (.aload 6, 2) := by decide +kernel
theorem dX7_paste_35 : decode cX7_paste 35 = .ok (.ifnull 8, 3) := by decide +kernel
theorem dX7_paste_38 : decode cX7_paste 38 = .ok (.aload 7, 2) := by decide +kernel
theorem dX7_paste_40 : decode cX7_paste 40 = .ok (.ifnonnull 6, 3) := by decide +kernel
theorem dX7_paste_43 : decode cX7_paste 43 = .ok (.bipush (-6), 2) := by decide +kernel
theorem dX7_paste_45 : decode cX7_paste 45 = .ok (.ireturn, 1) := by decide +kernel
theorem dX7_paste_46 : decode cX7_paste 46 = .ok (.aload 6, 2) := by decide +kernel
theorem dX7_paste_48 : decode cX7_paste 48 = .ok (.getfield 400, 3) := by decide +kernel
theorem dX7_paste_51 : decode cX7_paste 51 = .ok (.aload 7, 2) := by decide +kernel
theorem dX7_paste_53 : decode cX7_paste 53 = .ok (.getfield 400, 3) := by decide +kernel
theorem dX7_paste_56 : decode cX7_paste 56 = .ok (.if_icmp .eq 6, 3) := by decide +kernel
theorem dX7_paste_59 : decode cX7_paste 59 = .ok (.bipush (-8), 2) := by decide +kernel
theorem dX7_paste_61 : decode cX7_paste 61 = .ok (.ireturn, 1) := by decide +kernel
theorem dX7_paste_62 : decode cX7_paste 62 = .ok (.aload 6, 2) := by decide +kernel
theorem dX7_paste_64 : decode cX7_paste 64 = .ok (.iload_n 2, 1) := by decide +kernel
theorem dX7_paste_65 : decode cX7_paste 65 = .ok (.iload 5, 2) := by decide +kernel
theorem dX7_paste_67 : decode cX7_paste 67 = .ok (.invokevirtual 403, 3) := by decide +kernel
theorem dX7_paste_70 : decode cX7_paste 70 = .ok (.ifCond .eq 15, 3) := by decide +kernel
theorem dX7_paste_73 : decode cX7_paste 73 = .ok (.aload 7, 2) := by decide +kernel
theorem dX7_paste_75 : decode cX7_paste 75 = .ok (.iload 4, 2) := by decide +kernel
theorem dX7_paste_77 : decode cX7_paste 77 = .ok (.iload 5, 2) := by decide +kernel
theorem dX7_paste_79 : decode cX7_paste 79 = .ok (.invokevirtual 403, 3) := by decide +kernel
theorem dX7_paste_82 : decode cX7_paste 82 = .ok (.ifCond .ne 6, 3) := by decide +kernel
theorem dX7_paste_85 : decode cX7_paste 85 = .ok (.bipush (-7), 2) := by decide +kernel
theorem dX7_paste_87 : decode cX7_paste 87 = .ok (.ireturn, 1) := by decide +kernel
theorem dX7_paste_88 : decode cX7_paste 88 = .ok (.aload 6, 2) := by decide +kernel
theorem dX7_paste_90 : decode cX7_paste 90 = .ok (.getfield 406, 3) := by decide +kernel
theorem dX7_paste_93 : decode cX7_paste 93 = .ok (.iload_n 2, 1) := by decide +kernel
theorem dX7_paste_94 : decode cX7_paste 94 = .ok (.aload 7, 2) := by decide +kernel
theorem dX7_paste_96 : decode cX7_paste 96 = .ok (.getfield 406, 3) := by decide +kernel
theorem dX7_paste_99 : decode cX7_paste 99 = .ok (.iload 4, 2) := by decide +kernel
theorem dX7_paste_101 : decode cX7_paste 101 = .ok (.iload 5, 2) := by decide +kernel
theorem dX7_paste_103 : decode cX7_paste 103 = .ok (.invokestatic 409, 3) := by decide +kernel
theorem dX7_paste_106 : decode cX7_paste 106 = .ok (.iconst 0, 1) := by decide +kernel
theorem dX7_paste_107 : decode cX7_paste 107 = .ok (.ireturn, 1) := by decide +kernel
theorem no3 {n : Nat} (h : n < 3) : ¬ (nI n < 0 ∨ 3 ≤ nI n) := by
  rintro (z | z)
  · exact nI_pos (by omega) z
  · have y := Int32.le_iff_toInt_le.mp z
    rw [nI_toInt (by omega)] at y
    have k : (3 : Int32).toInt = 3 := (by decide)
    omega
theorem wd636 : Cond.fieldLink RX7 26 RX7 "images" "[LObligingPosts$Heath;" ∈ tblG := gw2 27 (by decide +kernel) (by decide +kernel)
theorem fk_X7_26 : FLk RX7 26 7 3 (.array (.object "ObligingPosts$Heath")) true := ⟨RX7, TX7, 12, tyX7, clX7, by decide, rfl, rfl, rfl, Or.inl wd636⟩
theorem wd637 : Cond.methodLink RX7 396 yX5_put ∈ tblG := gw6 13 (by decide +kernel) (by decide +kernel)
theorem wd638 : Cond.instanceMethod yX5_put ∈ tblG := gw6 14 (by decide +kernel) (by decide +kernel)
theorem wd639 : Cond.selects RX5 yX5_put yX5_put ∈ tblG := gw6 15 (by decide +kernel) (by decide +kernel)
theorem wd640 : Cond.code yX5_put cX5_put 4 none ∈ tblG := gw6 16 (by decide +kernel) (by decide +kernel)
theorem pl_X5_put : Plain yX5_put 2 := ⟨by decide, by decide, by decide +kernel⟩
theorem lk_X7_396 : LkV RX7 396 5 yX5_put cX5_put 4 none 2 := ⟨⟨TX5, 3, rfl⟩, wd637, wd638, wd639, wd633, wd640, pl_X5_put⟩
theorem fk_X7_400 : FLk RX7 400 5 1 (.int) false := ⟨RX5, TX5, 3, tyX5, clX5, by decide, rfl, rfl, rfl, Or.inr ⟨"ObligingPosts", List.mem_of_getElem? (i := 25) (by decide +kernel)⟩⟩
theorem wd641 : Cond.methodLink RX7 403 yX5_hasPart ∈ tblG := gw6 25 (by decide +kernel) (by decide +kernel)
theorem wd642 : Cond.instanceMethod yX5_hasPart ∈ tblG := gw6 26 (by decide +kernel) (by decide +kernel)
theorem wd643 : Cond.selects RX5 yX5_hasPart yX5_hasPart ∈ tblG := gw6 27 (by decide +kernel) (by decide +kernel)
theorem wd644 : Cond.code yX5_hasPart cX5_hasPart 3 (some .boolean) ∈ tblG := gw6 28 (by decide +kernel) (by decide +kernel)
theorem pl_X5_hasPart : Plain yX5_hasPart 2 := ⟨by decide, by decide, by decide +kernel⟩
theorem lk_X7_403 : LkV RX7 403 5 yX5_hasPart cX5_hasPart 3 (some .boolean) 2 := ⟨⟨TX5, 3, rfl⟩, wd641, wd642, wd643, wd633, wd644, pl_X5_hasPart⟩
