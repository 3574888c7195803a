theorem dX8_in_0 : decode cX8_in 0 = .ok (.lload_n 0, 1) := by decide +kernel
theorem dX8_in_1 : decode cX8_in 1 = .ok (.lload_n 2, 1) := by decide +kernel
theorem dX8_in_2 : decode cX8_in 2 = .ok (.lcmp, 1) := by decide +kernel
theorem dX8_in_3 : decode cX8_in 3 = .ok (.ifCond .lt 14, 3) := by decide +kernel
theorem dX8_in_6 : decode cX8_in 6 = .ok (.lload_n 0, 1) := by decide +kernel
theorem dX8_in_7 : decode cX8_in 7 = .ok (.lload 4, 2) := by decide +kernel
theorem dX8_in_9 : decode cX8_in 9 = .ok (.lcmp, 1) := by decide +kernel
theorem dX8_in_10 : decode cX8_in 10 = .ok (.ifCond .gt 7, 3) := by decide +kernel
theorem dX8_in_13 : decode cX8_in 13 = .ok (.iconst 1, 1) := by decide +kernel
theorem dX8_in_14 : decode cX8_in 14 = .ok (.goto 4, 3) := by decide +kernel
theorem dX8_in_17 : decode cX8_in 17 = .ok (.iconst 0, 1) := by decide +kernel
theorem dX8_in_18 : decode cX8_in 18 = .ok (.ireturn, 1) := by decide +kernel
theorem dX8_bits_0 : decode cX8_bits 0 = .ok (.iconst 0, 1) := by decide +kernel
theorem dX8_bits_1 : decode cX8_bits 1 = .ok (.istore_n 1, 1) := by decide +kernel
theorem dX8_bits_2 : decode cX8_bits 2 = .ok (.iconst 0, 1) := by decide +kernel
theorem dX8_bits_3 : decode cX8_bits 3 = .ok (.istore_n 2, 1) := by decide +kernel
theorem dX8_bits_4 : decode cX8_bits 4 = .ok (.iload_n 2, 1) := by decide +kernel
theorem dX8_bits_5 : decode cX8_bits 5 = .ok (.bipush 16, 2) := by decide +kernel
theorem dX8_bits_7 : decode cX8_bits 7 = .ok (.if_icmp .ge 17, 3) := by decide +kernel
theorem dX8_bits_10 : decode cX8_bits 10 = .ok (.iload_n 1, 1) := by decide +kernel
theorem dX8_bits_11 : decode cX8_bits 11 = .ok (.iload_n 0, 1) := by decide +kernel
theorem dX8_bits_12 : decode cX8_bits 12 = .ok (.iload_n 2, 1) := by decide +kernel
theorem dX8_bits_13 : decode cX8_bits 13 = .ok (.ishr, 1) := by decide +kernel
theorem dX8_bits_14 : decode cX8_bits 14 = .ok (.iconst 1, 1) := by decide +kernel
theorem dX8_bits_15 : decode cX8_bits 15 = .ok (.iand, 1) := by decide +kernel
theorem dX8_bits_16 : decode cX8_bits 16 = .ok (.iadd, 1) := by decide +kernel
theorem dX8_bits_17 : decode cX8_bits 17 = .ok (.istore_n 1, 1) := by decide +kernel
theorem dX8_bits_18 : decode cX8_bits 18 = .ok (.iinc 2 1, 3) := by decide +kernel
theorem dX8_bits_21 : decode cX8_bits 21 = .ok (.goto (-17), 3) := by decide +kernel
theorem dX8_bits_24 : decode cX8_bits 24 = .ok (.iload_n 1, 1) := by decide +kernel
theorem dX8_bits_25 : decode cX8_bits 25 = .ok (.ireturn, 1) := by decide +kernel
theorem dX8_bit_0 : decode cX8_bit 0 = .ok (.iload_n 0, 1) := by decide +kernel
theorem dX8_bit_1 : decode cX8_bit 1 = .ok (.iload_n 1, 1) := by decide +kernel
theorem dX8_bit_2 : decode cX8_bit 2 = .ok (.ishr, 1) := by decide +kernel
theorem dX8_bit_3 : decode cX8_bit 3 = .ok (.iconst 1, 1) := by decide +kernel
theorem dX8_bit_4 : decode cX8_bit 4 = .ok (.iand, 1) := by decide +kernel
theorem dX8_bit_5 : decode cX8_bit 5 = .ok (.ireturn, 1) := by decide +kernel
theorem dX8_isHeath_0 : decode cX8_isHeath 0 = .ok (.aload_n 0, 1) := by decide +kernel
theorem dX8_isHeath_1 : decode cX8_isHeath 1 = .ok (.getfield 9, 3) := by decide +kernel
theorem dX8_isHeath_4 : decode cX8_isHeath 4 = .ok (.bipush 9, 2) := by decide +kernel
theorem dX8_isHeath_6 : decode cX8_isHeath 6 = .ok (.iaload, 1) := by decide +kernel
theorem dX8_isHeath_7 : decode cX8_isHeath 7 = .ok (.ifCond .le 7, 3) := by decide +kernel
theorem dX8_isHeath_10 : decode cX8_isHeath 10 = .ok (.iconst 1, 1) := by decide +kernel
theorem dX8_isHeath_11 : decode cX8_isHeath 11 = .ok (.goto 4, 3) := by decide +kernel
theorem dX8_isHeath_14 : decode cX8_isHeath 14 = .ok (.iconst 0, 1) := by decide +kernel
theorem dX8_isHeath_15 : decode cX8_isHeath 15 = .ok (.ireturn, 1) := by decide +kernel
theorem dX8_hours_0 : decode cX8_hours 0 = .ok (.aload_n 0, 1) := by decide +kernel
theorem dX8_hours_1 : decode cX8_hours 1 = .ok (.getfield 9, 3) := by decide +kernel
theorem dX8_hours_4 : decode cX8_hours 4 = .ok (.iconst 0, 1) := by decide +kernel
theorem dX8_hours_5 : decode cX8_hours 5 = .ok (.iaload, 1) := by decide +kernel
theorem dX8_hours_6 : decode cX8_hours 6 = .ok (.ireturn, 1) := by decide +kernel
theorem dX8_posts_0 : decode cX8_posts 0 = .ok (.aload_n 0, 1) := by decide +kernel
theorem dX8_posts_1 : decode cX8_posts 1 = .ok (.getfield 9, 3) := by decide +kernel
theorem dX8_posts_4 : decode cX8_posts 4 = .ok (.iconst 4, 1) := by decide +kernel
theorem dX8_posts_5 : decode cX8_posts 5 = .ok (.iaload, 1) := by decide +kernel
theorem dX8_posts_6 : decode cX8_posts 6 = .ok (.ireturn, 1) := by decide +kernel
theorem dX8_walkers_0 : decode cX8_walkers 0 = .ok (.aload_n 0, 1) := by decide +kernel
theorem dX8_walkers_1 : decode cX8_walkers 1 = .ok (.getfield 9, 3) := by decide +kernel
theorem dX8_walkers_4 : decode cX8_walkers 4 = .ok (.bipush 7, 2) := by decide +kernel
theorem dX8_walkers_6 : decode cX8_walkers 6 = .ok (.iaload, 1) := by decide +kernel
theorem dX8_walkers_7 : decode cX8_walkers 7 = .ok (.ireturn, 1) := by decide +kernel
theorem dX8_allPosts_0 : decode cX8_allPosts 0 = .ok (.iconst 1, 1) := by decide +kernel
theorem dX8_allPosts_1 : decode cX8_allPosts 1 = .ok (.aload_n 0, 1) := by decide +kernel
theorem dX8_allPosts_2 : decode cX8_allPosts 2 = .ok (.invokevirtual 98, 3) := by decide +kernel
theorem dX8_allPosts_5 : decode cX8_allPosts 5 = .ok (.ishl, 1) := by decide +kernel
theorem dX8_allPosts_6 : decode cX8_allPosts 6 = .ok (.iconst 1, 1) := by decide +kernel
theorem dX8_allPosts_7 : decode cX8_allPosts 7 = .ok (.isub, 1) := by decide +kernel
theorem dX8_allPosts_8 : decode cX8_allPosts 8 = .ok (.ireturn, 1) := by decide +kernel
theorem dX8_isHour_0 : decode cX8_isHour 0 = .ok (.aload_n 0, 1) := by decide +kernel
theorem dX8_isHour_1 : decode cX8_isHour 1 = .ok (.invokevirtual 102, 3) := by decide +kernel
theorem dX8_isHour_4 : decode cX8_isHour 4 = .ok (.ifCond .eq 20, 3) := by decide +kernel
theorem dX8_isHour_7 : decode cX8_isHour 7 = .ok (.lload_n 1, 1) := by decide +kernel
theorem dX8_isHour_8 : decode cX8_isHour 8 = .ok (.lconst 0, 1) := by decide +kernel
theorem dX8_isHour_9 : decode cX8_isHour 9 = .ok (.aload_n 0, 1) := by decide +kernel
theorem dX8_isHour_10 : decode cX8_isHour 10 = .ok (.invokevirtual 106, 3) := by decide +kernel
theorem dX8_isHour_13 : decode cX8_isHour 13 = .ok (.i2l, 1) := by decide +kernel
theorem dX8_isHour_14 : decode cX8_isHour 14 = .ok (.invokestatic 94, 3) := by decide +kernel
theorem dX8_isHour_17 : decode cX8_isHour 17 = .ok (.ifCond .eq 7, 3) := by decide +kernel
theorem dX8_isHour_20 : decode cX8_isHour 20 = .ok (.iconst 1, 1) := by decide +kernel
theorem dX8_isHour_21 : decode cX8_isHour 21 = .ok (.goto 4, 3) := by decide +kernel
theorem dX8_isHour_24 : decode cX8_isHour 24 = .ok (.iconst 0, 1) := by decide +kernel
theorem dX8_isHour_25 : decode cX8_isHour 25 = .ok (.ireturn, 1) := by decide +kernel
theorem dX8_isAhead_0 : decode cX8_isAhead 0 = .ok (.aload_n 0, 1) := by decide +kernel
theorem dX8_isAhead_1 : decode cX8_isAhead 1 = .ok (.invokevirtual 102, 3) := by decide +kernel
theorem dX8_isAhead_4 : decode cX8_isAhead 4 = .ok (.ifCond .eq 22, 3) := by decide +kernel
theorem dX8_isAhead_7 : decode cX8_isAhead 7 = .ok (.lload_n 1, 1) := by decide +kernel
theorem dX8_isAhead_8 : decode cX8_isAhead 8 = .ok (.lconst 0, 1) := by decide +kernel
theorem dX8_isAhead_9 : decode cX8_isAhead 9 = .ok (.aload_n 0, 1) := by decide +kernel
theorem dX8_isAhead_10 : decode cX8_isAhead 10 = .ok (.invokevirtual 106, 3) := by decide +kernel
theorem dX8_isAhead_13 : decode cX8_isAhead 13 = .ok (.iconst 1, 1) := by decide +kernel
theorem dX8_isAhead_14 : decode cX8_isAhead 14 = .ok (.isub, 1) := by decide +kernel
theorem dX8_isAhead_15 : decode cX8_isAhead 15 = .ok (.i2l, 1) := by decide +kernel
theorem dX8_isAhead_16 : decode cX8_isAhead 16 = .ok (.invokestatic 94, 3) := by decide +kernel
theorem dX8_isAhead_19 : decode cX8_isAhead 19 = .ok (.ifCond .eq 7, 3) := by decide +kernel
theorem dX8_isAhead_22 : decode cX8_isAhead 22 = .ok (.iconst 1, 1) := by decide +kernel
theorem dX8_isAhead_23 : decode cX8_isAhead 23 = .ok (.goto 4, 3) := by decide +kernel
theorem dX8_isAhead_26 : decode cX8_isAhead 26 = .ok (.iconst 0, 1) := by decide +kernel
theorem dX8_isAhead_27 : decode cX8_isAhead 27 = .ok (.ireturn, 1) := by decide +kernel
theorem dX8_isPost_0 : decode cX8_isPost 0 = .ok (.lload_n 1, 1) := by decide +kernel
theorem dX8_isPost_1 : decode cX8_isPost 1 = .ok (.lconst 0, 1) := by decide +kernel
theorem dX8_isPost_2 : decode cX8_isPost 2 = .ok (.aload_n 0, 1) := by decide +kernel
theorem dX8_isPost_3 : decode cX8_isPost 3 = .ok (.invokevirtual 98, 3) := by decide +kernel
theorem dX8_isPost_6 : decode cX8_isPost 6 = .ok (.iconst 1, 1) := by decide +kernel
theorem dX8_isPost_7 : decode cX8_isPost 7 = .ok (.isub, 1) := by decide +kernel
theorem dX8_isPost_8 : decode cX8_isPost 8 = .ok (.i2l, 1) := by decide +kernel
theorem dX8_isPost_9 : decode cX8_isPost 9 = .ok (.invokestatic 94, 3) := by decide +kernel
theorem dX8_isPost_12 : decode cX8_isPost 12 = .ok (.ireturn, 1) := by decide +kernel
theorem dX8_isInn_0 : decode cX8_isInn 0 = .ok (.lload_n 1, 1) := by decide +kernel
theorem dX8_isInn_1 : decode cX8_isInn 1 = .ok (.lconst 0, 1) := by decide +kernel
theorem dX8_isInn_2 : decode cX8_isInn 2 = .ok (.aload_n 0, 1) := by decide +kernel
theorem dX8_isInn_3 : decode cX8_isInn 3 = .ok (.getfield 9, 3) := by decide +kernel
theorem dX8_isInn_6 : decode cX8_isInn 6 = .ok (.iconst 3, 1) := by decide +kernel
theorem dX8_isInn_7 : decode cX8_isInn 7 = .ok (.iaload, 1) := by decide +kernel
theorem dX8_isInn_8 : decode cX8_isInn 8 = .ok (.iconst 1, 1) := by decide +kernel
theorem dX8_isInn_9 : decode cX8_isInn 9 = .ok (.isub, 1) := by decide +kernel
theorem dX8_isInn_10 : decode cX8_isInn 10 = .ok (.i2l, 1) := by decide +kernel
theorem dX8_isInn_11 : decode cX8_isInn 11 = .ok (.invokestatic 94, 3) := by decide +kernel
theorem dX8_isInn_14 : decode cX8_isInn 14 = .ok (.ireturn, 1) := by decide +kernel
theorem dX8_isWalker_0 : decode cX8_isWalker 0 = .ok (.lload_n 1, 1) := by decide +kernel
theorem dX8_isWalker_1 : decode cX8_isWalker 1 = .ok (.lconst 0, 1) := by decide +kernel
theorem dX8_isWalker_2 : decode cX8_isWalker 2 = .ok (.aload_n 0, 1) := by decide +kernel
theorem dX8_isWalker_3 : decode cX8_isWalker 3 = .ok (.invokevirtual 109, 3) := by decide +kernel
theorem dX8_isWalker_6 : decode cX8_isWalker 6 = .ok (.iconst 1, 1) := by decide +kernel
theorem dX8_isWalker_7 : decode cX8_isWalker 7 = .ok (.isub, 1) := by decide +kernel
theorem dX8_isWalker_8 : decode cX8_isWalker 8 = .ok (.i2l, 1) := by decide +kernel
theorem dX8_isWalker_9 : decode cX8_isWalker 9 = .ok (.invokestatic 94, 3) := by decide +kernel
theorem dX8_isWalker_12 : decode cX8_isWalker 12 = .ok (.ireturn, 1) := by decide +kernel
theorem dX8_isPlace_0 : decode cX8_isPlace 0 = .ok (.aload_n 0, 1) := by decide +kernel
theorem dX8_isPlace_1 : decode cX8_isPlace 1 = .ok (.lload_n 1, 1) := by decide +kernel
theorem dX8_isPlace_2 : decode cX8_isPlace 2 = .ok (.invokevirtual 112, 3) := by decide +kernel
theorem dX8_isPlace_5 : decode cX8_isPlace 5 = .ok (.ifCond .ne 15, 3) := by decide +kernel
theorem dX8_isPlace_8 : decode cX8_isPlace 8 = .ok (.aload_n 0, 1) := by decide +kernel
theorem dX8_isPlace_9 : decode cX8_isPlace 9 = .ok (.lload_n 1, 1) := by decide +kernel
theorem dX8_isPlace_10 : decode cX8_isPlace 10 = .ok (.ldc2_w 116, 3) := by decide +kernel
theorem dX8_isPlace_13 : decode cX8_isPlace 13 = .ok (.lsub, 1) := by decide +kernel
theorem dX8_isPlace_14 : decode cX8_isPlace 14 = .ok (.invokevirtual 118, 3) := by decide +kernel
theorem dX8_isPlace_17 : decode cX8_isPlace 17 = .ok (.ifCond .eq 7, 3) := by decide +kernel
theorem dX8_isPlace_20 : decode cX8_isPlace 20 = .ok (.iconst 1, 1) := by decide +kernel
theorem dX8_isPlace_21 : decode cX8_isPlace 21 = .ok (.goto 4, 3) := by decide +kernel
theorem dX8_isPlace_24 : decode cX8_isPlace 24 = .ok (.iconst 0, 1) := by decide +kernel
theorem dX8_isPlace_25 : decode cX8_isPlace 25 = .ok (.ireturn, 1) := by decide +kernel
theorem dX8_roadMany_0 : decode cX8_roadMany 0 = .ok (.aload_n 0, 1) := by decide +kernel
theorem dX8_roadMany_1 : decode cX8_roadMany 1 = .ok (.getfield 9, 3) := by decide +kernel
theorem dX8_roadMany_4 : decode cX8_roadMany 4 = .ok (.bipush 14, 2) := by decide +kernel
theorem dX8_roadMany_6 : decode cX8_roadMany 6 = .ok (.bipush 6, 2) := by decide +kernel
theorem dX8_roadMany_8 : decode cX8_roadMany 8 = .ok (.iload_n 1, 1) := by decide +kernel
theorem dX8_roadMany_9 : decode cX8_roadMany 9 = .ok (.imul, 1) := by decide +kernel
theorem dX8_roadMany_10 : decode cX8_roadMany 10 = .ok (.iadd, 1) := by decide +kernel
theorem dX8_roadMany_11 : decode cX8_roadMany 11 = .ok (.iaload, 1) := by decide +kernel
theorem dX8_roadMany_12 : decode cX8_roadMany 12 = .ok (.ireturn, 1) := by decide +kernel
theorem dX8_roadTo_0 : decode cX8_roadTo 0 = .ok (.aload_n 0, 1) := by decide +kernel
theorem dX8_roadTo_1 : decode cX8_roadTo 1 = .ok (.getfield 9, 3) := by decide +kernel
theorem dX8_roadTo_4 : decode cX8_roadTo 4 = .ok (.bipush 14, 2) := by decide +kernel
theorem dX8_roadTo_6 : decode cX8_roadTo 6 = .ok (.bipush 6, 2) := by decide +kernel
theorem dX8_roadTo_8 : decode cX8_roadTo 8 = .ok (.iload_n 1, 1) := by decide +kernel
theorem dX8_roadTo_9 : decode cX8_roadTo 9 = .ok (.imul, 1) := by decide +kernel
theorem dX8_roadTo_10 : decode cX8_roadTo 10 = .ok (.iadd, 1) := by decide +kernel
theorem dX8_roadTo_11 : decode cX8_roadTo 11 = .ok (.iconst 1, 1) := by decide +kernel
theorem dX8_roadTo_12 : decode cX8_roadTo 12 = .ok (.iadd, 1) := by decide +kernel
theorem dX8_roadTo_13 : decode cX8_roadTo 13 = .ok (.iload_n 2, 1) := by decide +kernel
theorem dX8_roadTo_14 : decode cX8_roadTo 14 = .ok (.iadd, 1) := by decide +kernel
theorem dX8_roadTo_15 : decode cX8_roadTo 15 = .ok (.iaload, 1) := by decide +kernel
theorem dX8_roadTo_16 : decode cX8_roadTo 16 = .ok (.ireturn, 1) := by decide +kernel
theorem dX8_armOf_0 : decode cX8_armOf 0 = .ok (.aload_n 0, 1) := by decide +kernel
theorem dX8_armOf_1 : decode cX8_armOf 1 = .ok (.getfield 9, 3) := by decide +kernel
theorem dX8_armOf_4 : decode cX8_armOf 4 = .ok (.bipush 14, 2) := by decide +kernel
theorem dX8_armOf_6 : decode cX8_armOf 6 = .ok (.bipush 6, 2) := by decide +kernel
theorem dX8_armOf_8 : decode cX8_armOf 8 = .ok (.iload_n 1, 1) := by decide +kernel
theorem dX8_armOf_9 : decode cX8_armOf 9 = .ok (.imul, 1) := by decide +kernel
theorem dX8_armOf_10 : decode cX8_armOf 10 = .ok (.iadd, 1) := by decide +kernel
theorem dX8_armOf_11 : decode cX8_armOf 11 = .ok (.iconst 1, 1) := by decide +kernel
theorem dX8_armOf_12 : decode cX8_armOf 12 = .ok (.iadd, 1) := by decide +kernel
theorem dX8_armOf_13 : decode cX8_armOf 13 = .ok (.iconst 4, 1) := by decide +kernel
theorem dX8_armOf_14 : decode cX8_armOf 14 = .ok (.iadd, 1) := by decide +kernel
theorem dX8_armOf_15 : decode cX8_armOf 15 = .ok (.iaload, 1) := by decide +kernel
theorem dX8_armOf_16 : decode cX8_armOf 16 = .ok (.ireturn, 1) := by decide +kernel
theorem act_nat {x : Int32} (h : rg 0 699 x ∨ 10000 ≤ x.toInt) : ∃ n : Nat, n < 2 ^ 31 ∧ (n ≤ 699 ∨ 10000 ≤ n) ∧ x = nI n := by
  have h3 : x.toInt < 2 ^ 31 := Int32.toInt_lt x
  obtain ⟨n, a1, a2, a3⟩ := nI_ofInt (x := x) (lo := 0) (hi := 2 ^ 31 - 1) (by rcases h with h | h; exact h.1; omega) (by omega) (by decide)
  refine ⟨n, by omega, ?_, a3⟩
  have e : x.toInt = n := by rw [a3, nI_toInt (by omega)]
  rcases h with h | h
  · have := h.2; omega
  · omega
theorem act_of {n : Nat} (h : n ≤ 699 ∨ 10000 ≤ n) (hn : n < 2 ^ 31) : rg 0 699 (nI n) ∨ 10000 ≤ (nI n).toInt := by
  rw [nI_toInt hn]
  rcases h with h | h
  · exact Or.inl (rg_of (by omega) (by omega) hn)
  · exact Or.inr (by omega)
theorem okw_0 (j : Nat) : okw j 0 := by
  have r : ∀ hi : Int, 0 ≤ hi → rg 0 hi (0 : Int32) := fun hi h => ⟨by decide, by have k : (0 : Int32).toInt = 0 := (by decide); omega⟩
  exact ⟨fun _ => r _ (by decide), fun _ => r _ (by decide), fun _ => r _ (by decide), fun _ => r _ (by decide), fun _ => r _ (by decide), fun _ => r _ (by decide), fun _ _ _ => r _ (by decide), fun _ _ _ => r _ (by decide), fun _ _ _ _ => Or.inl (by decide), fun _ _ _ => r _ (by decide), fun _ _ => Or.inl (r _ (by decide))⟩
theorem rgm_nat {hi : Int} {x : Int32} (h : rg (-1) hi x) : x = -1 ∨ ∃ n : Nat, (n : Int) ≤ hi ∧ x = nI n := by
  by_cases e : x.toInt = -1
  · exact Or.inl (Int32.toInt_inj.mp (by rw [e]; decide))
  · have h1 := h.1
    obtain ⟨n, a1, a2, a3⟩ := nI_ofInt (x := x) (lo := 0) (hi := hi) (by omega) h.2 (by decide)
    exact Or.inr ⟨n, a2, a3⟩
theorem mx1 {n : Nat} (hn : n ≤ 4) : ∃ m : Nat, 1 ≤ m ∧ m ≤ 4 ∧ (if (1 : Int32) < nI n then nI n else 1) = nI m := by
  by_cases h : (1 : Int32) < nI n
  · refine ⟨n, ?_, hn, if_pos h⟩
    have z := Int32.lt_iff_toInt_lt.mp h
    rw [nI_toInt (by omega)] at z
    have k : (1 : Int32).toInt = 1 := (by decide)
    omega
  · exact ⟨1, by decide, by decide, if_neg h⟩
theorem bit_nat (x : Int32) : ∃ j : Nat, j ≤ 1 ∧ x &&& 1 = nI j := by
  obtain ⟨j, hj, e⟩ := pk_andE x (m := 1) 1 (by decide)
  exact ⟨j, by omega, e⟩
theorem byte_nat (x : Int32) : ∃ j : Nat, j ≤ 255 ∧ x &&& 255 = nI j := by
  obtain ⟨j, hj, e⟩ := pk_andE x (m := 255) 8 (by decide)
  exact ⟨j, by omega, e⟩
theorem tn_m1 {x m : Nat} (hx : x < 2 ^ 30) (hm : 1 ≤ m) (hm2 : m < 2 ^ 30) : nI x + (-1) + nI m = nI (x + m - 1) := by
  have e : nI (x + m - 1) + 1 = nI (x + m) := by rw [show (1 : Int32) = nI 1 from rfl, nI_add]; congr 1; omega
  have e2 : nI x + nI m = nI (x + m) := nI_add x m
  have : nI x + (-1) + nI m = nI (x + m) + (-1) := by rw [← e2, Int32.add_assoc, Int32.add_comm (-1), ← Int32.add_assoc]
  rw [this, ← e, Int32.add_assoc]
  have z : (1 : Int32) + (-1) = 0 := by decide
  rw [z, Int32.add_zero]
theorem updL_self {f : Nat → Int64} {i : Nat} {x : Int64} : vp_updL f i x i = x := by simp [vp_updL]
theorem updL_ne {f : Nat → Int64} {i j : Nat} {x : Int64} (h : j ≠ i) : vp_updL f i x j = f j := by simp [vp_updL, h]
theorem lm_pos {x y : Int} (hx : 1 ≤ x) (hy : 1 ≤ y) : 1 ≤ x * y := by
  have := Int.mul_le_mul hx hy (by decide) (by omega)
  omega
theorem bit0_ : ∀ t, t < 8 → (nI 0 >>> (nI t &&& 31)) &&& 1 = 0 := by decide +kernel
theorem bit1_ : ∀ h, h < 8 → ∀ t, t < 8 → t ≤ h → (nI (2 ^ (h + 1) - 1) >>> (nI t &&& 31)) &&& 1 = 1 := by decide +kernel
theorem shl2 : ∀ n, n < 8 → (2 : Int32) <<< (nI n &&& 31) = nI (2 ^ (n + 1)) := by decide +kernel
theorem i_loopD {p : Program} {l : Launch} {e : Env} {s : State} {m : MethodId} {args : Array Value} {below : List Frame} {meth : Method} {c : Code} {nL : Nat} {G : va_G} {cy : Nat → ClassId} {A : Nat → Prop} {Rm : Room} {cells slots : Nat} {Q : State → Prop} {L : List Nat} {M : Nat → va_E} {pc : Nat} {st : List Value} {a : Nat → Nat} {act : Nat → Bool} {C : Nat → Nat → Int32} {D : Nat → Nat → Int64} {R : Nat → Nat → Option Nat} {σ : Type} {mods : List Nat} {C0 : Nat → Nat → Int32} {D0 : Nat → Nat → Int64} (mu : σ → Nat) (lvf : σ → List (Nat × Value)) (P : σ → (Nat → Nat → Int32) → (Nat → Nat → Int64) → Prop) (step : ∀ (x : σ) (L : List Nat) (M : Nat → va_E) (C : Nat → Nat → Int32) (D : Nat → Nat → Int64), WI L M a act (ent cy a C D R) → Inv C → Kp mods C0 D0 C D → P x C D → (∀ (y : σ) (L : List Nat) (M : Nat → va_E) (C : Nat → Nat → Int32) (D : Nat → Nat → Int64), WI L M a act (ent cy a C D R) → Inv C → Kp mods C0 D0 C D → P y C D → mu y < mu x → Go p l e Rm s m args below meth c nL G A cells slots Q L M pc (lvf y) st) → Go p l e Rm s m args below meth c nL G A cells slots Q L M pc (lvf x) st) (x : σ) (F : WI L M a act (ent cy a C D R)) (I : Inv C) (K : Kp mods C0 D0 C D) (hP : P x C D) : Go p l e Rm s m args below meth c nL G A cells slots Q L M pc (lvf x) st := by
  have key : ∀ (n : Nat) (x : σ) (L : List Nat) (M : Nat → va_E) (C : Nat → Nat → Int32) (D : Nat → Nat → Int64), WI L M a act (ent cy a C D R) → Inv C → Kp mods C0 D0 C D → P x C D → mu x < n → Go p l e Rm s m args below meth c nL G A cells slots Q L M pc (lvf x) st := by
    intro n
    induction n with
    | zero => intro x L M C D _ _ _ _ h; omega
    | succ n ih => intro x L M C D F I K hP h; exact step x L M C D F I K hP (fun y L M C D F I K hP h2 => ih y L M C D F I K hP (by omega))
  exact key (mu x + 1) x L M C D F I K hP (by omega)
theorem g_mmaxV {p : Program} {l : Launch} {e : Env} {s : State} {m : MethodId} {args : Array Value} {below : List Frame} {meth : Method} {c : Code} {own : String} {cc : ByteArray} {nL : Nat} {G : va_G} {cy : Nat → ClassId} {A : Nat → Prop} {Rm : Room} {cells slots : Nat} {Q : State → Prop} {L : List Nat} {M : Nat → va_E} {pc : Nat} {lv : List (Nat × Value)} {st : List Value} (X : Cx p s m args meth c own cc nL G cy A) {idx : Nat} {x y v : Int32} (w1 : Cond.methodLink own idx Lib.Math.max.name ∈ tblG) (w2 : Cond.static Lib.Math.max.name ∈ tblG) (w3 : Cond.initialized "java/lang/Math" ∈ tblG) (w4 : Cond.code Lib.Math.max.name Lib.Math.max.code 2 (some .int) ∈ tblG) (hf : 1 ≤ Rm.frames) (hlo : (st.map fun v => v.category).sum + 13 ≤ Rm.locals) (hc : cells ≤ Rm.cells) (hs : slots ≤ Rm.slots) (hv : (if x < y then y else x) = v) (hd : decode cc pc = .ok (.invokestatic idx, 3)) (k : Go p l e Rm s m args below meth c nL G A cells slots Q L M (pc + 3) lv (.int v :: st)) : Go p l e Rm s m args below meth c nL G A cells slots Q L M pc lv (.int y :: .int x :: st) := by
  subst hv
  exact fun H locs ls hP hD hS hl => va_mmax X.1 X.2.1 (by rw [X.2.2.1]; exact hl.1.symm) X.2.2.2.1 (X.2.2.2.2.1 _ w1) (X.2.2.2.2.1 _ w2) (X.2.2.2.2.1 _ w3) (X.2.2.2.2.1 _ w4) hf hlo hc hs hd (k H locs ls hP hD hS hl)

theorem layX8 : ∀ k, k < 41 → u_lay RX8 TX8 k ∈ tblG := fun k hk => match k, hk with
  | 0, _ => gw6 75 (by decide +kernel) (by decide +kernel)
  | 1, _ => gw6 77 (by decide +kernel) (by decide +kernel)
  | 2, _ => gw6 79 (by decide +kernel) (by decide +kernel)
  | 3, _ => gw6 81 (by decide +kernel) (by decide +kernel)
  | 4, _ => gw6 83 (by decide +kernel) (by decide +kernel)
  | 5, _ => gw6 85 (by decide +kernel) (by decide +kernel)
  | 6, _ => gw6 87 (by decide +kernel) (by decide +kernel)
  | 7, _ => gw6 89 (by decide +kernel) (by decide +kernel)
  | 8, _ => gw6 91 (by decide +kernel) (by decide +kernel)
  | 9, _ => gw6 93 (by decide +kernel) (by decide +kernel)
  | 10, _ => gw6 95 (by decide +kernel) (by decide +kernel)
  | 11, _ => gw6 97 (by decide +kernel) (by decide +kernel)
  | 12, _ => gw6 99 (by decide +kernel) (by decide +kernel)
  | 13, _ => gw6 101 (by decide +kernel) (by decide +kernel)
  | 14, _ => gw6 103 (by decide +kernel) (by decide +kernel)
  | 15, _ => gw6 105 (by decide +kernel) (by decide +kernel)
  | 16, _ => gw6 107 (by decide +kernel) (by decide +kernel)
  | 17, _ => gw6 109 (by decide +kernel) (by decide +kernel)
  | 18, _ => gw6 111 (by decide +kernel) (by decide +kernel)
  | 19, _ => gw6 113 (by decide +kernel) (by decide +kernel)
  | 20, _ => gw6 115 (by decide +kernel) (by decide +kernel)
  | 21, _ => gw6 117 (by decide +kernel) (by decide +kernel)
  | 22, _ => gw6 119 (by decide +kernel) (by decide +kernel)
  | 23, _ => gw6 121 (by decide +kernel) (by decide +kernel)
  | 24, _ => gw6 123 (by decide +kernel) (by decide +kernel)
  | 25, _ => gw6 125 (by decide +kernel) (by decide +kernel)
  | 26, _ => gw6 127 (by decide +kernel) (by decide +kernel)
  | 27, _ => gw6 129 (by decide +kernel) (by decide +kernel)
  | 28, _ => gw6 131 (by decide +kernel) (by decide +kernel)
  | 29, _ => gw6 133 (by decide +kernel) (by decide +kernel)
  | 30, _ => gw6 135 (by decide +kernel) (by decide +kernel)
  | 31, _ => gw6 137 (by decide +kernel) (by decide +kernel)
  | 32, _ => gw6 139 (by decide +kernel) (by decide +kernel)
  | 33, _ => gw6 141 (by decide +kernel) (by decide +kernel)
  | 34, _ => gw6 143 (by decide +kernel) (by decide +kernel)
  | 35, _ => gw6 145 (by decide +kernel) (by decide +kernel)
  | 36, _ => gw6 147 (by decide +kernel) (by decide +kernel)
  | 37, _ => gw6 149 (by decide +kernel) (by decide +kernel)
  | 38, _ => gw6 151 (by decide +kernel) (by decide +kernel)
  | 39, _ => gw6 153 (by decide +kernel) (by decide +kernel)
  | 40, _ => gw6 155 (by decide +kernel) (by decide +kernel)
  | k + 41, hk => absurd hk (by omega)
theorem clX8 : CLk 8 RX8 TX8 41 tyX8 := ⟨rfl, fun w hw => by
  obtain ⟨k, hk, rfl⟩ := List.mem_map.mp hw
  exact layX8 k (List.mem_range.mp hk), tyX8_ok, nmX8⟩
theorem wd645 : Cond.fieldLink RX8 9 RX8 "world" "[I" ∈ tblG := gw6 35 (by decide +kernel) (by decide +kernel)
theorem fk_X8_9 : FLk RX8 9 8 1 (.array .int) true := ⟨RX8, TX8, 41, tyX8, clX8, by decide, rfl, rfl, rfl, Or.inl wd645⟩
theorem wd646 : Cond.methodLink RX8 98 yX8_posts ∈ tblG := gw7 52 (by decide +kernel) (by decide +kernel)
theorem wd647 : Cond.instanceMethod yX8_posts ∈ tblG := gw7 54 (by decide +kernel) (by decide +kernel)
theorem wd648 : Cond.selects RX8 yX8_posts yX8_posts ∈ tblG := gw0 66 (by decide +kernel) (by decide +kernel)
theorem wd649 : Cond.initialized RX8 ∈ tblG := gw1 8 (by decide +kernel) (by decide +kernel)
theorem wd650 : Cond.code yX8_posts cX8_posts 1 (some .int) ∈ tblG := gw7 55 (by decide +kernel) (by decide +kernel)
theorem pl_X8_posts : Plain yX8_posts 0 := ⟨by decide, by decide, by decide +kernel⟩
theorem lk_X8_98 : LkV RX8 98 8 yX8_posts cX8_posts 1 (some .int) 0 := ⟨⟨TX8, 41, rfl⟩, wd646, wd647, wd648, wd649, wd650, pl_X8_posts⟩
theorem wd651 : Cond.methodLink RX8 102 yX8_isHeath ∈ tblG := gw7 96 (by decide +kernel) (by decide +kernel)
theorem wd652 : Cond.instanceMethod yX8_isHeath ∈ tblG := gw7 98 (by decide +kernel) (by decide +kernel)
theorem wd653 : Cond.selects RX8 yX8_isHeath yX8_isHeath ∈ tblG := gw0 72 (by decide +kernel) (by decide +kernel)
theorem wd654 : Cond.code yX8_isHeath cX8_isHeath 1 (some .boolean) ∈ tblG := gw7 99 (by decide +kernel) (by decide +kernel)
theorem pl_X8_isHeath : Plain yX8_isHeath 0 := ⟨by decide, by decide, by decide +kernel⟩
theorem lk_X8_102 : LkV RX8 102 8 yX8_isHeath cX8_isHeath 1 (some .boolean) 0 := ⟨⟨TX8, 41, rfl⟩, wd651, wd652, wd653, wd649, wd654, pl_X8_isHeath⟩
theorem wd655 : Cond.methodLink RX8 106 yX8_hours ∈ tblG := gw7 120 (by decide +kernel) (by decide +kernel)
theorem wd656 : Cond.instanceMethod yX8_hours ∈ tblG := gw7 122 (by decide +kernel) (by decide +kernel)
theorem wd657 : Cond.selects RX8 yX8_hours yX8_hours ∈ tblG := gw0 77 (by decide +kernel) (by decide +kernel)
theorem wd658 : Cond.code yX8_hours cX8_hours 1 (some .int) ∈ tblG := gw7 123 (by decide +kernel) (by decide +kernel)
theorem pl_X8_hours : Plain yX8_hours 0 := ⟨by decide, by decide, by decide +kernel⟩
theorem lk_X8_106 : LkV RX8 106 8 yX8_hours cX8_hours 1 (some .int) 0 := ⟨⟨TX8, 41, rfl⟩, wd655, wd656, wd657, wd649, wd658, pl_X8_hours⟩
theorem wd659 : Cond.methodLink RX8 94 yX8_in ∈ tblG := gw6 164 (by decide +kernel) (by decide +kernel)
theorem wd660 : Cond.static yX8_in ∈ tblG := gw6 165 (by decide +kernel) (by decide +kernel)
theorem wd661 : Cond.code yX8_in cX8_in 6 (some .boolean) ∈ tblG := gw6 166 (by decide +kernel) (by decide +kernel)
theorem pl_X8_in : Plain yX8_in 3 := ⟨by decide, by decide, by decide +kernel⟩
theorem lk_X8_94 : LkS RX8 94 yX8_in cX8_in 6 (some .boolean) 3 := ⟨wd659, wd660, wd649, wd661, pl_X8_in⟩
theorem wd662 : Cond.methodLink RX8 109 yX8_walkers ∈ tblG := gw7 84 (by decide +kernel) (by decide +kernel)
theorem wd663 : Cond.instanceMethod yX8_walkers ∈ tblG := gw7 86 (by decide +kernel) (by decide +kernel)
theorem wd664 : Cond.selects RX8 yX8_walkers yX8_walkers ∈ tblG := gw0 71 (by decide +kernel) (by decide +kernel)
theorem wd665 : Cond.code yX8_walkers cX8_walkers 1 (some .int) ∈ tblG := gw7 87 (by decide +kernel) (by decide +kernel)
theorem pl_X8_walkers : Plain yX8_walkers 0 := ⟨by decide, by decide, by decide +kernel⟩
theorem lk_X8_109 : LkV RX8 109 8 yX8_walkers cX8_walkers 1 (some .int) 0 := ⟨⟨TX8, 41, rfl⟩, wd662, wd663, wd664, wd649, wd665, pl_X8_walkers⟩
theorem wd666 : Cond.methodLink RX8 112 yX8_isPost ∈ tblG := gw7 48 (by decide +kernel) (by decide +kernel)
theorem wd667 : Cond.instanceMethod yX8_isPost ∈ tblG := gw7 50 (by decide +kernel) (by decide +kernel)
theorem wd668 : Cond.selects RX8 yX8_isPost yX8_isPost ∈ tblG := gw0 65 (by decide +kernel) (by decide +kernel)
theorem wd669 : Cond.code yX8_isPost cX8_isPost 3 (some .boolean) ∈ tblG := gw7 51 (by decide +kernel) (by decide +kernel)
theorem pl_X8_isPost : Plain yX8_isPost 1 := ⟨by decide, by decide, by decide +kernel⟩
theorem lk_X8_112 : LkV RX8 112 8 yX8_isPost cX8_isPost 3 (some .boolean) 1 := ⟨⟨TX8, 41, rfl⟩, wd666, wd667, wd668, wd649, wd669, pl_X8_isPost⟩
theorem wd670 : Cond.constantLong RX8 116 (10) ∈ tblG := gw7 167 (by decide +kernel) (by decide +kernel)
theorem wd671 : Cond.methodLink RX8 118 yX8_isInn ∈ tblG := gw7 40 (by decide +kernel) (by decide +kernel)
theorem wd672 : Cond.instanceMethod yX8_isInn ∈ tblG := gw7 42 (by decide +kernel) (by decide +kernel)
theorem wd673 : Cond.selects RX8 yX8_isInn yX8_isInn ∈ tblG := gw0 64 (by decide +kernel) (by decide +kernel)
theorem wd674 : Cond.code yX8_isInn cX8_isInn 3 (some .boolean) ∈ tblG := gw7 43 (by decide +kernel) (by decide +kernel)
theorem pl_X8_isInn : Plain yX8_isInn 1 := ⟨by decide, by decide, by decide +kernel⟩
theorem lk_X8_118 : LkV RX8 118 8 yX8_isInn cX8_isInn 3 (some .boolean) 1 := ⟨⟨TX8, 41, rfl⟩, wd671, wd672, wd673, wd649, wd674, pl_X8_isInn⟩
