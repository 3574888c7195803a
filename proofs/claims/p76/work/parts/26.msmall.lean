set_option maxHeartbeats 4000000 in
set_option maxRecDepth 100000 in
theorem s_X8_in (l : Launch) (G : va_G) {cy : Nat → ClassId} {L : List Nat} {M : Nat → va_E} {a : Nat → Nat} {act : Nat → Bool} {C0 : Nat → Nat → Int32} {D0 : Nat → Nat → Int64} {R : Nat → Nat → Option Nat} (F : WI L M a act (ent cy a C0 D0 R)) (I : Inv C0) (p0 : Int64) (p1 : Int64) (p2 : Int64)  : MI l G cy yX8_in cX8_in 6 (some .boolean) 0 0 0 [.long p0, .long p1, .long p2] L M (fun r L2 M2 => ∃ C2 D2, WI L2 M2 a act (ent cy a C2 D2 R) ∧ Inv C2 ∧ Kp [] C0 D0 C2 D2 ∧ ((r = 0 ∧ ¬ (p1.toInt ≤ p0.toInt ∧ p0.toInt ≤ p2.toInt)) ∨ (r = 1 ∧ p1.toInt ≤ p0.toInt ∧ p0.toInt ≤ p2.toInt))) := by
  refine MI.of (own := RX8) rfl (by decide) (Nat.le_of_ble_eq_true rfl) ?_
  intro p e s m below meth c A X hrt hnm
  obtain ⟨C, D, hC0, hD0, F, I, K⟩ : ∃ C D, C = C0 ∧ D = D0 ∧ WI L M a act (ent cy a C D R) ∧ Inv C ∧ Kp [] C0 D0 C D := ⟨C0, D0, rfl, rfl, F, I, Kp.rf⟩
  refine g_lload_n X dX8_in_0 rfl (j := 0) rfl ?_
  refine g_lload_n X dX8_in_1 rfl (j := 1) rfl ?_
  refine g_lcmp X dX8_in_2 ?_
  refine g_if_lt X dX8_in_3 (tgt := 17) (by decide) (fun q1 => ?_) (fun q1 => ?_)
  · skip
    have q1t : p0.toInt < p1.toInt := Int64.lt_iff_toInt_lt.mp ((lg_cmp_lt _ _).mp q1)
    refine g_iconst X dX8_in_17 (v := 0) (by decide) ?_
    exact g_zret X hrt rfl dX8_in_18 (by decide) (by decide) ⟨C, D, F, I, K, Or.inl ⟨rfl, by omega⟩⟩
  · skip
    have q1t : ¬ p0.toInt < p1.toInt := fun z => q1 ((lg_cmp_lt _ _).mpr (Int64.lt_iff_toInt_lt.mpr z))
    refine g_lload_n X dX8_in_6 rfl (j := 0) rfl ?_
    refine g_lload X dX8_in_7 (j := 2) rfl ?_
    refine g_lcmp X dX8_in_9 ?_
    refine g_if_gt X dX8_in_10 (tgt := 17) (by decide) (fun q2 => ?_) (fun q2 => ?_)
    · skip
      have q2t : p2.toInt < p0.toInt := Int64.lt_iff_toInt_lt.mp ((lg_cmp_gt _ _).mp q2)
      refine g_iconst X dX8_in_17 (v := 0) (by decide) ?_
      exact g_zret X hrt rfl dX8_in_18 (by decide) (by decide) ⟨C, D, F, I, K, Or.inl ⟨rfl, by omega⟩⟩
    · skip
      have q2t : ¬ p2.toInt < p0.toInt := fun z => q2 ((lg_cmp_gt _ _).mpr (Int64.lt_iff_toInt_lt.mpr z))
      refine g_iconst X dX8_in_13 (v := 1) (by decide) ?_
      refine g_goto X dX8_in_14 (tgt := 18) (by decide) ?_
      exact g_zret X hrt rfl dX8_in_18 (by decide) (by decide) ⟨C, D, F, I, K, Or.inr ⟨rfl, by omega, by omega⟩⟩
set_option maxHeartbeats 4000000 in
set_option maxRecDepth 100000 in
theorem s_X8_bits (l : Launch) (G : va_G) {cy : Nat → ClassId} {L : List Nat} {M : Nat → va_E} {a : Nat → Nat} {act : Nat → Bool} {C0 : Nat → Nat → Int32} {D0 : Nat → Nat → Int64} {R : Nat → Nat → Option Nat} (F : WI L M a act (ent cy a C0 D0 R)) (I : Inv C0) (p0 : Int32)  : MI l G cy yX8_bits cX8_bits 3 (some .int) 0 0 0 [.int p0] L M (fun r L2 M2 => ∃ C2 D2, WI L2 M2 a act (ent cy a C2 D2 R) ∧ Inv C2 ∧ Kp [] C0 D0 C2 D2 ∧ ∃ n : Nat, 0 ≤ n ∧ n ≤ 16 ∧ r = nI n) := by
  refine MI.of (own := RX8) rfl (by decide) (Nat.le_of_ble_eq_true rfl) ?_
  intro p e s m below meth c A X hrt hnm
  obtain ⟨C, D, hC0, hD0, F, I, K⟩ : ∃ C D, C = C0 ∧ D = D0 ∧ WI L M a act (ent cy a C D R) ∧ Inv C ∧ Kp [] C0 D0 C D := ⟨C0, D0, rfl, rfl, F, I, Kp.rf⟩
  refine g_iconst X dX8_bits_0 (v := 0) (by decide) ?_
  refine g_istore_n X dX8_bits_1 rfl (by decide) (lv2 := [(1, .int 0), (0, .int p0)]) rfl ?_
  refine g_iconst X dX8_bits_2 (v := 0) (by decide) ?_
  refine g_istore_n X dX8_bits_3 rfl (by decide) (lv2 := [(2, .int 0), (1, .int 0), (0, .int p0)]) rfl ?_
  refine g_lv [0, 1, 2] (lv2 := [(2, .int 0), (1, .int 0), (0, .int p0)]) rfl ?_
  refine i_loop (mods := []) (fun x : Nat × Nat => 16 - x.1) (fun x => [(2, .int (nI (x.1))), (1, .int (nI (x.2))), (0, .int p0)]) (fun x C => 0 ≤ x.1 ∧ x.1 ≤ 16 ∧ 0 ≤ x.2 ∧ x.2 ≤ 16 ∧ (x.2 ≤ x.1)) (fun x L M C D F I K hP ih4 => ?_) ((0, 0) : Nat × Nat) F I K ⟨by show _ ≤ _; omega, by show _ ≤ _; omega, by show _ ≤ _; omega, by show _ ≤ _; omega, (by decide)⟩
  rcases x with ⟨i4_2, i4_1⟩
  obtain ⟨hi4_2a, hi4_2b, hi4_1a, hi4_1b, hnk⟩ := hP
  try dsimp only at hnk
  refine g_lv [0, 1, 2] (lv2 := [(2, .int (nI i4_2)), (1, .int (nI i4_1)), (0, .int p0)]) rfl ?_
  refine g_iload_n X dX8_bits_4 rfl (j := 0) rfl ?_
  refine g_bipush X dX8_bits_5 (v := 16) (by decide) ?_
  refine g_icmp_ge X dX8_bits_7 (tgt := 24) (by decide) (fun q1 => ?_) (fun q1 => ?_)
  · skip
    have q1 : 16 ≤ i4_2 := (nI_leI (a := 16) (b := i4_2) (by omega) (by omega)).mp q1
    refine g_iload_n X dX8_bits_24 rfl (j := 1) rfl ?_
    exact g_iret X hrt dX8_bits_25 (by decide) (by decide) ⟨C, D, F, I, K, ⟨i4_1, by omega, by omega, rfl⟩⟩
  · skip
    have q1 : ¬ 16 ≤ i4_2 := fun z => q1 ((nI_leI (a := 16) (b := i4_2) (by omega) (by omega)).mpr z)
    refine g_iload_n X dX8_bits_10 rfl (j := 1) rfl ?_
    refine g_iload_n X dX8_bits_11 rfl (j := 2) rfl ?_
    refine g_iload_n X dX8_bits_12 rfl (j := 0) rfl ?_
    refine g_ishr X dX8_bits_13 ?_
    refine Go.gen (fun o2 => ?_)
    refine g_iconst X dX8_bits_14 (v := 1) (by decide) ?_
    refine g_iand X dX8_bits_15 ?_
    obtain ⟨n3, hn3, en3⟩ := bit_nat o2
    refine Go.top (v := .int (nI n3)) (congrArg Value.int en3) ?_
    refine g_iadd X dX8_bits_16 ?_
    refine Go.top (v := .int (nI (i4_1 + n3))) (congrArg Value.int (nI_add i4_1 n3)) ?_
    refine g_istore_n X dX8_bits_17 rfl (by decide) (lv2 := [(1, .int (nI (i4_1 + n3))), (2, .int (nI i4_2)), (0, .int p0)]) rfl ?_
    refine g_iinc X dX8_bits_18 (j := 1) rfl (v := nI (i4_2 + 1)) (nI_1 i4_2) (by decide) (lv2 := [(2, .int (nI (i4_2 + 1))), (1, .int (nI (i4_1 + n3))), (0, .int p0)]) rfl ?_
    refine g_goto X dX8_bits_21 (tgt := 4) (by decide) ?_
    refine g_lv [0, 1, 2] (lv2 := [(2, .int (nI (i4_2 + 1))), (1, .int (nI (i4_1 + n3))), (0, .int p0)]) rfl ?_
    exact ih4 ((i4_2 + 1), (i4_1 + n3)) L M C D F I K ⟨by omega, by omega, by omega, by omega, (by show _ ≤ _; omega)⟩ (by show _ < _; omega)
set_option maxHeartbeats 4000000 in
set_option maxRecDepth 100000 in
theorem s_X8_bit (l : Launch) (G : va_G) {cy : Nat → ClassId} {L : List Nat} {M : Nat → va_E} {a : Nat → Nat} {act : Nat → Bool} {C0 : Nat → Nat → Int32} {D0 : Nat → Nat → Int64} {R : Nat → Nat → Option Nat} (F : WI L M a act (ent cy a C0 D0 R)) (I : Inv C0) (p0 : Int32) (p1 : Int32)  : MI l G cy yX8_bit cX8_bit 2 (some .int) 0 0 0 [.int p0, .int p1] L M (fun r L2 M2 => ∃ C2 D2, WI L2 M2 a act (ent cy a C2 D2 R) ∧ Inv C2 ∧ Kp [] C0 D0 C2 D2 ∧ ∃ n : Nat, 0 ≤ n ∧ n ≤ 1 ∧ r = nI n) := by
  refine MI.of (own := RX8) rfl (by decide) (Nat.le_of_ble_eq_true rfl) ?_
  intro p e s m below meth c A X hrt hnm
  obtain ⟨C, D, hC0, hD0, F, I, K⟩ : ∃ C D, C = C0 ∧ D = D0 ∧ WI L M a act (ent cy a C D R) ∧ Inv C ∧ Kp [] C0 D0 C D := ⟨C0, D0, rfl, rfl, F, I, Kp.rf⟩
  refine g_iload_n X dX8_bit_0 rfl (j := 0) rfl ?_
  refine g_iload_n X dX8_bit_1 rfl (j := 1) rfl ?_
  refine g_ishr X dX8_bit_2 ?_
  refine Go.gen (fun o1 => ?_)
  refine g_iconst X dX8_bit_3 (v := 1) (by decide) ?_
  refine g_iand X dX8_bit_4 ?_
  obtain ⟨n2, hn2, en2⟩ := bit_nat o1
  refine Go.top (v := .int (nI n2)) (congrArg Value.int en2) ?_
  exact g_iret X hrt dX8_bit_5 (by decide) (by decide) ⟨C, D, F, I, K, ⟨n2, by omega, by omega, rfl⟩⟩
set_option maxHeartbeats 4000000 in
set_option maxRecDepth 100000 in
theorem s_X8_isHeath (l : Launch) (G : va_G) {cy : Nat → ClassId} {L : List Nat} {M : Nat → va_E} {a : Nat → Nat} {act : Nat → Bool} {C0 : Nat → Nat → Int32} {D0 : Nat → Nat → Int64} {R : Nat → Nat → Option Nat} (F : WI L M a act (ent cy a C0 D0 R)) (I : Inv C0)   : MI l G cy yX8_isHeath cX8_isHeath 1 (some .boolean) 0 0 0 [.ref (a 100)] L M (fun r L2 M2 => ∃ C2 D2, WI L2 M2 a act (ent cy a C2 D2 R) ∧ Inv C2 ∧ Kp [] C0 D0 C2 D2 ∧ (r = 0 ∨ r = 1)) := by
  refine MI.of (own := RX8) rfl (by decide) (Nat.le_of_ble_eq_true rfl) ?_
  intro p e s m below meth c A X hrt hnm
  obtain ⟨C, D, hC0, hD0, F, I, K⟩ : ∃ C D, C = C0 ∧ D = D0 ∧ WI L M a act (ent cy a C D R) ∧ Inv C ∧ Kp [] C0 D0 C D := ⟨C0, D0, rfl, rfl, F, I, Kp.rf⟩
  obtain ⟨n1, hn1, en1⟩ := rg_nat ((show okw 0 (C 101 0) from I 101 0).1 rfl) (by decide)
  rw [hC0] at en1
  obtain ⟨n2, hn2, en2⟩ := rg_nat ((show okw 4 (C 101 4) from I 101 4).2.2.2.1 rfl) (by decide)
  rw [hC0] at en2
  obtain ⟨n3, hn3, en3⟩ := rg_nat ((show okw 7 (C 101 7) from I 101 7).2.2.2.2.1 rfl) (by decide)
  rw [hC0] at en3
  refine g_aload_n X dX8_isHeath_0 rfl (j := 0) rfl ?_
  refine i_get X F 100 rfl rfl fk_X8_9 dX8_isHeath_1 rfl ?_
  refine g_bipush X dX8_isHeath_4 (v := 9) (by decide) ?_
  refine i_iald X F 101 rfl rfl dX8_isHeath_6 (vp_in_iff.mpr (by decide)) rfl ?_
  refine Go.gen (fun o4 => ?_)
  refine g_if_le X dX8_isHeath_7 (tgt := 14) (by decide) (fun q5 => ?_) (fun q5 => ?_)
  · skip
    have q5t : o4.toInt ≤ (0 : Int32).toInt := Int32.le_iff_toInt_le.mp q5
    have q5k : (0 : Int32).toInt = 0 := (by decide)
    have q5b := Int32.toInt_lt o4
    refine g_iconst X dX8_isHeath_14 (v := 0) (by decide) ?_
    exact g_zret X hrt rfl dX8_isHeath_15 (by decide) (by decide) ⟨C, D, F, I, K, Or.inl rfl⟩
  · skip
    have q5t : ¬ o4.toInt ≤ (0 : Int32).toInt := fun z => q5 (Int32.le_iff_toInt_le.mpr z)
    have q5k : (0 : Int32).toInt = 0 := (by decide)
    have q5b := Int32.toInt_lt o4
    obtain ⟨n6, hn6, rfl⟩ := nI_of (x := o4) (fun z => by have z2 := Int32.lt_iff_toInt_lt.mp z; have z3 : (0 : Int32).toInt = 0 := (by decide); omega)
    rw [nI_toInt (by omega)] at q5t
    have tn6 := nI_toInt (n := n6) (by omega)
    refine g_iconst X dX8_isHeath_10 (v := 1) (by decide) ?_
    refine g_goto X dX8_isHeath_11 (tgt := 15) (by decide) ?_
    exact g_zret X hrt rfl dX8_isHeath_15 (by decide) (by decide) ⟨C, D, F, I, K, Or.inr rfl⟩
set_option maxHeartbeats 4000000 in
set_option maxRecDepth 100000 in
theorem s_X8_hours (l : Launch) (G : va_G) {cy : Nat → ClassId} {L : List Nat} {M : Nat → va_E} {a : Nat → Nat} {act : Nat → Bool} {C0 : Nat → Nat → Int32} {D0 : Nat → Nat → Int64} {R : Nat → Nat → Option Nat} (F : WI L M a act (ent cy a C0 D0 R)) (I : Inv C0)   : MI l G cy yX8_hours cX8_hours 1 (some .int) 0 0 0 [.ref (a 100)] L M (fun r L2 M2 => ∃ C2 D2, WI L2 M2 a act (ent cy a C2 D2 R) ∧ Inv C2 ∧ Kp [] C0 D0 C2 D2 ∧ (∃ n : Nat, n ≤ 16 ∧ C2 101 0 = nI n ∧ r = nI n)) := by
  refine MI.of (own := RX8) rfl (by decide) (Nat.le_of_ble_eq_true rfl) ?_
  intro p e s m below meth c A X hrt hnm
  obtain ⟨C, D, hC0, hD0, F, I, K⟩ : ∃ C D, C = C0 ∧ D = D0 ∧ WI L M a act (ent cy a C D R) ∧ Inv C ∧ Kp [] C0 D0 C D := ⟨C0, D0, rfl, rfl, F, I, Kp.rf⟩
  refine g_aload_n X dX8_hours_0 rfl (j := 0) rfl ?_
  refine i_get X F 100 rfl rfl fk_X8_9 dX8_hours_1 rfl ?_
  refine g_iconst X dX8_hours_4 (v := 0) (by decide) ?_
  obtain ⟨n1, hn1, en1⟩ := rg_nat ((show okw (0) (C 101 (0)) from I 101 (0)).1 rfl) (by decide)
  refine i_iald X F 101 rfl rfl dX8_hours_5 (vp_in_iff.mpr (by decide)) (v := nI n1) (by exact en1) ?_
  exact g_iret X hrt dX8_hours_6 (by decide) (by decide) ⟨C, D, F, I, K, ⟨n1, by omega, en1, rfl⟩⟩
set_option maxHeartbeats 4000000 in
set_option maxRecDepth 100000 in
theorem s_X8_posts (l : Launch) (G : va_G) {cy : Nat → ClassId} {L : List Nat} {M : Nat → va_E} {a : Nat → Nat} {act : Nat → Bool} {C0 : Nat → Nat → Int32} {D0 : Nat → Nat → Int64} {R : Nat → Nat → Option Nat} (F : WI L M a act (ent cy a C0 D0 R)) (I : Inv C0)   : MI l G cy yX8_posts cX8_posts 1 (some .int) 0 0 0 [.ref (a 100)] L M (fun r L2 M2 => ∃ C2 D2, WI L2 M2 a act (ent cy a C2 D2 R) ∧ Inv C2 ∧ Kp [] C0 D0 C2 D2 ∧ (∃ n : Nat, n ≤ 7 ∧ C2 101 4 = nI n ∧ r = nI n)) := by
  refine MI.of (own := RX8) rfl (by decide) (Nat.le_of_ble_eq_true rfl) ?_
  intro p e s m below meth c A X hrt hnm
  obtain ⟨C, D, hC0, hD0, F, I, K⟩ : ∃ C D, C = C0 ∧ D = D0 ∧ WI L M a act (ent cy a C D R) ∧ Inv C ∧ Kp [] C0 D0 C D := ⟨C0, D0, rfl, rfl, F, I, Kp.rf⟩
  refine g_aload_n X dX8_posts_0 rfl (j := 0) rfl ?_
  refine i_get X F 100 rfl rfl fk_X8_9 dX8_posts_1 rfl ?_
  refine g_iconst X dX8_posts_4 (v := 4) (by decide) ?_
  obtain ⟨n1, hn1, en1⟩ := rg_nat ((show okw (4) (C 101 (4)) from I 101 (4)).2.2.2.1 rfl) (by decide)
  refine i_iald X F 101 rfl rfl dX8_posts_5 (vp_in_iff.mpr (by decide)) (v := nI n1) (by exact en1) ?_
  exact g_iret X hrt dX8_posts_6 (by decide) (by decide) ⟨C, D, F, I, K, ⟨n1, by omega, en1, rfl⟩⟩
set_option maxHeartbeats 4000000 in
set_option maxRecDepth 100000 in
theorem s_X8_walkers (l : Launch) (G : va_G) {cy : Nat → ClassId} {L : List Nat} {M : Nat → va_E} {a : Nat → Nat} {act : Nat → Bool} {C0 : Nat → Nat → Int32} {D0 : Nat → Nat → Int64} {R : Nat → Nat → Option Nat} (F : WI L M a act (ent cy a C0 D0 R)) (I : Inv C0)   : MI l G cy yX8_walkers cX8_walkers 1 (some .int) 0 0 0 [.ref (a 100)] L M (fun r L2 M2 => ∃ C2 D2, WI L2 M2 a act (ent cy a C2 D2 R) ∧ Inv C2 ∧ Kp [] C0 D0 C2 D2 ∧ (∃ n : Nat, n ≤ 8 ∧ C2 101 7 = nI n ∧ r = nI n)) := by
  refine MI.of (own := RX8) rfl (by decide) (Nat.le_of_ble_eq_true rfl) ?_
  intro p e s m below meth c A X hrt hnm
  obtain ⟨C, D, hC0, hD0, F, I, K⟩ : ∃ C D, C = C0 ∧ D = D0 ∧ WI L M a act (ent cy a C D R) ∧ Inv C ∧ Kp [] C0 D0 C D := ⟨C0, D0, rfl, rfl, F, I, Kp.rf⟩
  refine g_aload_n X dX8_walkers_0 rfl (j := 0) rfl ?_
  refine i_get X F 100 rfl rfl fk_X8_9 dX8_walkers_1 rfl ?_
  refine g_bipush X dX8_walkers_4 (v := 7) (by decide) ?_
  obtain ⟨n1, hn1, en1⟩ := rg_nat ((show okw (7) (C 101 (7)) from I 101 (7)).2.2.2.2.1 rfl) (by decide)
  refine i_iald X F 101 rfl rfl dX8_walkers_6 (vp_in_iff.mpr (by decide)) (v := nI n1) (by exact en1) ?_
  exact g_iret X hrt dX8_walkers_7 (by decide) (by decide) ⟨C, D, F, I, K, ⟨n1, by omega, en1, rfl⟩⟩
set_option maxHeartbeats 4000000 in
set_option maxRecDepth 100000 in
theorem s_X8_allPosts (l : Launch) (G : va_G) {cy : Nat → ClassId} {L : List Nat} {M : Nat → va_E} {a : Nat → Nat} {act : Nat → Bool} {C0 : Nat → Nat → Int32} {D0 : Nat → Nat → Int64} {R : Nat → Nat → Option Nat} (F : WI L M a act (ent cy a C0 D0 R)) (I : Inv C0)   : MI l G cy yX8_allPosts cX8_allPosts 1 (some .int) 1 0 0 [.ref (a 100)] L M (fun r L2 M2 => ∃ C2 D2, WI L2 M2 a act (ent cy a C2 D2 R) ∧ Inv C2 ∧ Kp [] C0 D0 C2 D2 ∧ True) := by
  refine MI.of (own := RX8) rfl (by decide) (Nat.le_of_ble_eq_true rfl) ?_
  intro p e s m below meth c A X hrt hnm
  obtain ⟨C, D, hC0, hD0, F, I, K⟩ : ∃ C D, C = C0 ∧ D = D0 ∧ WI L M a act (ent cy a C D R) ∧ Inv C ∧ Kp [] C0 D0 C D := ⟨C0, D0, rfl, rfl, F, I, Kp.rf⟩
  obtain ⟨n1, hn1, en1⟩ := rg_nat ((show okw 0 (C 101 0) from I 101 0).1 rfl) (by decide)
  rw [hC0] at en1
  obtain ⟨n2, hn2, en2⟩ := rg_nat ((show okw 4 (C 101 4) from I 101 4).2.2.2.1 rfl) (by decide)
  rw [hC0] at en2
  obtain ⟨n3, hn3, en3⟩ := rg_nat ((show okw 7 (C 101 7) from I 101 7).2.2.2.2.1 rfl) (by decide)
  rw [hC0] at en3
  refine g_iconst X dX8_allPosts_0 (v := 1) (by decide) ?_
  refine g_aload_n X dX8_allPosts_1 rfl (j := 0) rfl ?_
  refine g_callVI X (s_X8_posts l G F I  ) lk_X8_98 (F.1 100 rfl).2 (F.1 100 rfl).1 rfl rfl dX8_allPosts_2 (Nat.le_of_ble_eq_true rfl) ⟨by decide, by decide⟩ ⟨by decide, by decide⟩ (fun r4 L M hp => ?_)
  obtain ⟨C, D, F, I, K1, hr⟩ := hp
  have K := K.step K1 (by decide)
  obtain ⟨n5, hn5, en5, rfl⟩ := hr
  obtain rfl : n2 = n5 := ((nI_eq (by omega) (by omega)).mp (en5.symm.trans ((congrFun (K 101 (by decide)).1 4).trans en2))).symm
  refine g_ishl X dX8_allPosts_5 ?_
  refine Go.gen (fun o6 => ?_)
  refine g_iconst X dX8_allPosts_6 (v := 1) (by decide) ?_
  refine g_isub X dX8_allPosts_7 ?_
  refine Go.gen (fun o7 => ?_)
  exact g_iret X hrt dX8_allPosts_8 (by decide) (by decide) ⟨C, D, F, I, K, trivial⟩
set_option maxHeartbeats 4000000 in
set_option maxRecDepth 100000 in
theorem s_X8_isHour (l : Launch) (G : va_G) {cy : Nat → ClassId} {L : List Nat} {M : Nat → va_E} {a : Nat → Nat} {act : Nat → Bool} {C0 : Nat → Nat → Int32} {D0 : Nat → Nat → Int64} {R : Nat → Nat → Option Nat} (F : WI L M a act (ent cy a C0 D0 R)) (I : Inv C0) (p0 : Int64)  : MI l G cy yX8_isHour cX8_isHour 3 (some .boolean) 1 0 0 [.ref (a 100), .long p0] L M (fun r L2 M2 => ∃ C2 D2, WI L2 M2 a act (ent cy a C2 D2 R) ∧ Inv C2 ∧ Kp [] C0 D0 C2 D2 ∧ (r = 0 ∨ (r = 1 ∧ 0 ≤ p0.toInt ∧ p0.toInt ≤ 16))) := by
  refine MI.of (own := RX8) rfl (by decide) (Nat.le_of_ble_eq_true rfl) ?_
  intro p e s m below meth c A X hrt hnm
  obtain ⟨C, D, hC0, hD0, F, I, K⟩ : ∃ C D, C = C0 ∧ D = D0 ∧ WI L M a act (ent cy a C D R) ∧ Inv C ∧ Kp [] C0 D0 C D := ⟨C0, D0, rfl, rfl, F, I, Kp.rf⟩
  obtain ⟨n1, hn1, en1⟩ := rg_nat ((show okw 0 (C 101 0) from I 101 0).1 rfl) (by decide)
  rw [hC0] at en1
  obtain ⟨n2, hn2, en2⟩ := rg_nat ((show okw 4 (C 101 4) from I 101 4).2.2.2.1 rfl) (by decide)
  rw [hC0] at en2
  obtain ⟨n3, hn3, en3⟩ := rg_nat ((show okw 7 (C 101 7) from I 101 7).2.2.2.2.1 rfl) (by decide)
  rw [hC0] at en3
  refine g_aload_n X dX8_isHour_0 rfl (j := 0) rfl ?_
  refine g_callVI X (s_X8_isHeath l G F I  ) lk_X8_102 (F.1 100 rfl).2 (F.1 100 rfl).1 rfl rfl dX8_isHour_1 (Nat.le_of_ble_eq_true rfl) ⟨by decide, by decide⟩ ⟨by decide, by decide⟩ (fun r4 L M hp => ?_)
  obtain ⟨C, D, F, I, K1, hr⟩ := hp
  have K := K.step K1 (by decide)
  rcases hr with rfl | rfl
  · skip
    refine g_if_eq X dX8_isHour_4 (tgt := 24) (by decide) (fun _ => ?_) (fun q => absurd (by decide) q)
    refine g_iconst X dX8_isHour_24 (v := 0) (by decide) ?_
    exact g_zret X hrt rfl dX8_isHour_25 (by decide) (by decide) ⟨C, D, F, I, K, Or.inl rfl⟩
  · skip
    refine g_if_eq X dX8_isHour_4 (tgt := 24) (by decide) (fun q => absurd q (by decide)) (fun _ => ?_)
    refine g_lload_n X dX8_isHour_7 rfl (j := 1) rfl ?_
    refine g_lconst X dX8_isHour_8 (v := 0) (by decide) ?_
    refine g_aload_n X dX8_isHour_9 rfl (j := 0) rfl ?_
    refine g_callVI X (s_X8_hours l G F I  ) lk_X8_106 (F.1 100 rfl).2 (F.1 100 rfl).1 rfl rfl dX8_isHour_10 (Nat.le_of_ble_eq_true rfl) ⟨by decide, by decide⟩ ⟨by decide, by decide⟩ (fun r5 L M hp => ?_)
    obtain ⟨C, D, F, I, K1, hr⟩ := hp
    have K := K.step K1 (by decide)
    obtain ⟨n6, hn6, en6, rfl⟩ := hr
    obtain rfl : n1 = n6 := ((nI_eq (by omega) (by omega)).mp (en6.symm.trans ((congrFun (K 101 (by decide)).1 0).trans en1))).symm
    refine g_i2l X dX8_isHour_13 rfl ?_
    refine g_callSI X (s_X8_in l G F I p0 (0 : Int64) ((Int32.toInt64 (nI n1))) ) lk_X8_94 rfl rfl dX8_isHour_14 (Nat.le_of_ble_eq_true rfl) ⟨by decide, by decide⟩ ⟨by decide, by decide⟩ (fun r7 L M hp => ?_)
    obtain ⟨C, D, F, I, K1, hr⟩ := hp
    have K := K.step K1 (by decide)
    rcases hr with ⟨rfl, hq8⟩ | ⟨rfl, hq8⟩
    · skip
      have hq8l : (0 : Int64).toInt = 0 := (by decide)
      have hq8h := Jvm.Kit.i64_of_i32 (nI n1)
      rw [nI_toInt (by omega)] at hq8h
      refine g_if_eq X dX8_isHour_17 (tgt := 24) (by decide) (fun _ => ?_) (fun q => absurd (by decide) q)
      refine g_iconst X dX8_isHour_24 (v := 0) (by decide) ?_
      exact g_zret X hrt rfl dX8_isHour_25 (by decide) (by decide) ⟨C, D, F, I, K, Or.inl rfl⟩
    · skip
      have hq8l : (0 : Int64).toInt = 0 := (by decide)
      have hq8h := Jvm.Kit.i64_of_i32 (nI n1)
      rw [nI_toInt (by omega)] at hq8h
      refine g_if_eq X dX8_isHour_17 (tgt := 24) (by decide) (fun q => absurd q (by decide)) (fun _ => ?_)
      refine g_iconst X dX8_isHour_20 (v := 1) (by decide) ?_
      refine g_goto X dX8_isHour_21 (tgt := 25) (by decide) ?_
      exact g_zret X hrt rfl dX8_isHour_25 (by decide) (by decide) ⟨C, D, F, I, K, Or.inr ⟨rfl, by omega, by omega⟩⟩
set_option maxHeartbeats 4000000 in
set_option maxRecDepth 100000 in
theorem s_X8_isAhead (l : Launch) (G : va_G) {cy : Nat → ClassId} {L : List Nat} {M : Nat → va_E} {a : Nat → Nat} {act : Nat → Bool} {C0 : Nat → Nat → Int32} {D0 : Nat → Nat → Int64} {R : Nat → Nat → Option Nat} (F : WI L M a act (ent cy a C0 D0 R)) (I : Inv C0) (p0 : Int64)  : MI l G cy yX8_isAhead cX8_isAhead 3 (some .boolean) 1 0 0 [.ref (a 100), .long p0] L M (fun r L2 M2 => ∃ C2 D2, WI L2 M2 a act (ent cy a C2 D2 R) ∧ Inv C2 ∧ Kp [] C0 D0 C2 D2 ∧ (r = 0 ∨ (r = 1 ∧ 0 ≤ p0.toInt ∧ p0.toInt ≤ 15))) := by
  refine MI.of (own := RX8) rfl (by decide) (Nat.le_of_ble_eq_true rfl) ?_
  intro p e s m below meth c A X hrt hnm
  obtain ⟨C, D, hC0, hD0, F, I, K⟩ : ∃ C D, C = C0 ∧ D = D0 ∧ WI L M a act (ent cy a C D R) ∧ Inv C ∧ Kp [] C0 D0 C D := ⟨C0, D0, rfl, rfl, F, I, Kp.rf⟩
  obtain ⟨n1, hn1, en1⟩ := rg_nat ((show okw 0 (C 101 0) from I 101 0).1 rfl) (by decide)
  rw [hC0] at en1
  obtain ⟨n2, hn2, en2⟩ := rg_nat ((show okw 4 (C 101 4) from I 101 4).2.2.2.1 rfl) (by decide)
  rw [hC0] at en2
  obtain ⟨n3, hn3, en3⟩ := rg_nat ((show okw 7 (C 101 7) from I 101 7).2.2.2.2.1 rfl) (by decide)
  rw [hC0] at en3
  refine g_aload_n X dX8_isAhead_0 rfl (j := 0) rfl ?_
  refine g_callVI X (s_X8_isHeath l G F I  ) lk_X8_102 (F.1 100 rfl).2 (F.1 100 rfl).1 rfl rfl dX8_isAhead_1 (Nat.le_of_ble_eq_true rfl) ⟨by decide, by decide⟩ ⟨by decide, by decide⟩ (fun r4 L M hp => ?_)
  obtain ⟨C, D, F, I, K1, hr⟩ := hp
  have K := K.step K1 (by decide)
  rcases hr with rfl | rfl
  · skip
    refine g_if_eq X dX8_isAhead_4 (tgt := 26) (by decide) (fun _ => ?_) (fun q => absurd (by decide) q)
    refine g_iconst X dX8_isAhead_26 (v := 0) (by decide) ?_
    exact g_zret X hrt rfl dX8_isAhead_27 (by decide) (by decide) ⟨C, D, F, I, K, Or.inl rfl⟩
  · skip
    refine g_if_eq X dX8_isAhead_4 (tgt := 26) (by decide) (fun q => absurd q (by decide)) (fun _ => ?_)
    refine g_lload_n X dX8_isAhead_7 rfl (j := 1) rfl ?_
    refine g_lconst X dX8_isAhead_8 (v := 0) (by decide) ?_
    refine g_aload_n X dX8_isAhead_9 rfl (j := 0) rfl ?_
    refine g_callVI X (s_X8_hours l G F I  ) lk_X8_106 (F.1 100 rfl).2 (F.1 100 rfl).1 rfl rfl dX8_isAhead_10 (Nat.le_of_ble_eq_true rfl) ⟨by decide, by decide⟩ ⟨by decide, by decide⟩ (fun r5 L M hp => ?_)
    obtain ⟨C, D, F, I, K1, hr⟩ := hp
    have K := K.step K1 (by decide)
    obtain ⟨n6, hn6, en6, rfl⟩ := hr
    obtain rfl : n1 = n6 := ((nI_eq (by omega) (by omega)).mp (en6.symm.trans ((congrFun (K 101 (by decide)).1 0).trans en1))).symm
    refine g_iconst X dX8_isAhead_13 (v := 1) (by decide) ?_
    refine g_isub X dX8_isAhead_14 ?_
    have hs7 := nI_m1 (n := n1) (by omega)
    refine g_i2l X dX8_isAhead_15 rfl ?_
    refine g_callSI X (s_X8_in l G F I p0 (0 : Int64) ((Int32.toInt64 ((nI n1 - 1)))) ) lk_X8_94 rfl rfl dX8_isAhead_16 (Nat.le_of_ble_eq_true rfl) ⟨by decide, by decide⟩ ⟨by decide, by decide⟩ (fun r8 L M hp => ?_)
    obtain ⟨C, D, F, I, K1, hr⟩ := hp
    have K := K.step K1 (by decide)
    rcases hr with ⟨rfl, hq9⟩ | ⟨rfl, hq9⟩
    · skip
      have hq9l : (0 : Int64).toInt = 0 := (by decide)
      have hq9h := Jvm.Kit.i64_of_i32 ((nI n1 - 1))
      refine g_if_eq X dX8_isAhead_19 (tgt := 26) (by decide) (fun _ => ?_) (fun q => absurd (by decide) q)
      refine g_iconst X dX8_isAhead_26 (v := 0) (by decide) ?_
      exact g_zret X hrt rfl dX8_isAhead_27 (by decide) (by decide) ⟨C, D, F, I, K, Or.inl rfl⟩
    · skip
      have hq9l : (0 : Int64).toInt = 0 := (by decide)
      have hq9h := Jvm.Kit.i64_of_i32 ((nI n1 - 1))
      refine g_if_eq X dX8_isAhead_19 (tgt := 26) (by decide) (fun q => absurd q (by decide)) (fun _ => ?_)
      refine g_iconst X dX8_isAhead_22 (v := 1) (by decide) ?_
      refine g_goto X dX8_isAhead_23 (tgt := 27) (by decide) ?_
      exact g_zret X hrt rfl dX8_isAhead_27 (by decide) (by decide) ⟨C, D, F, I, K, Or.inr ⟨rfl, by omega, by omega⟩⟩
set_option maxHeartbeats 4000000 in
set_option maxRecDepth 100000 in
theorem s_X8_isPost (l : Launch) (G : va_G) {cy : Nat → ClassId} {L : List Nat} {M : Nat → va_E} {a : Nat → Nat} {act : Nat → Bool} {C0 : Nat → Nat → Int32} {D0 : Nat → Nat → Int64} {R : Nat → Nat → Option Nat} (F : WI L M a act (ent cy a C0 D0 R)) (I : Inv C0) (p0 : Int64)  : MI l G cy yX8_isPost cX8_isPost 3 (some .boolean) 1 0 0 [.ref (a 100), .long p0] L M (fun r L2 M2 => ∃ C2 D2, WI L2 M2 a act (ent cy a C2 D2 R) ∧ Inv C2 ∧ Kp [] C0 D0 C2 D2 ∧ (r = 0 ∨ (r = 1 ∧ 0 ≤ p0.toInt ∧ p0.toInt ≤ 6))) := by
  refine MI.of (own := RX8) rfl (by decide) (Nat.le_of_ble_eq_true rfl) ?_
  intro p e s m below meth c A X hrt hnm
  obtain ⟨C, D, hC0, hD0, F, I, K⟩ : ∃ C D, C = C0 ∧ D = D0 ∧ WI L M a act (ent cy a C D R) ∧ Inv C ∧ Kp [] C0 D0 C D := ⟨C0, D0, rfl, rfl, F, I, Kp.rf⟩
  obtain ⟨n1, hn1, en1⟩ := rg_nat ((show okw 0 (C 101 0) from I 101 0).1 rfl) (by decide)
  rw [hC0] at en1
  obtain ⟨n2, hn2, en2⟩ := rg_nat ((show okw 4 (C 101 4) from I 101 4).2.2.2.1 rfl) (by decide)
  rw [hC0] at en2
  obtain ⟨n3, hn3, en3⟩ := rg_nat ((show okw 7 (C 101 7) from I 101 7).2.2.2.2.1 rfl) (by decide)
  rw [hC0] at en3
  refine g_lload_n X dX8_isPost_0 rfl (j := 1) rfl ?_
  refine g_lconst X dX8_isPost_1 (v := 0) (by decide) ?_
  refine g_aload_n X dX8_isPost_2 rfl (j := 0) rfl ?_
  refine g_callVI X (s_X8_posts l G F I  ) lk_X8_98 (F.1 100 rfl).2 (F.1 100 rfl).1 rfl rfl dX8_isPost_3 (Nat.le_of_ble_eq_true rfl) ⟨by decide, by decide⟩ ⟨by decide, by decide⟩ (fun r4 L M hp => ?_)
  obtain ⟨C, D, F, I, K1, hr⟩ := hp
  have K := K.step K1 (by decide)
  obtain ⟨n5, hn5, en5, rfl⟩ := hr
  obtain rfl : n2 = n5 := ((nI_eq (by omega) (by omega)).mp (en5.symm.trans ((congrFun (K 101 (by decide)).1 4).trans en2))).symm
  refine g_iconst X dX8_isPost_6 (v := 1) (by decide) ?_
  refine g_isub X dX8_isPost_7 ?_
  have hs6 := nI_m1 (n := n2) (by omega)
  refine g_i2l X dX8_isPost_8 rfl ?_
  refine g_callSI X (s_X8_in l G F I p0 (0 : Int64) ((Int32.toInt64 ((nI n2 - 1)))) ) lk_X8_94 rfl rfl dX8_isPost_9 (Nat.le_of_ble_eq_true rfl) ⟨by decide, by decide⟩ ⟨by decide, by decide⟩ (fun r7 L M hp => ?_)
  obtain ⟨C, D, F, I, K1, hr⟩ := hp
  have K := K.step K1 (by decide)
  rcases hr with ⟨rfl, hq8⟩ | ⟨rfl, hq8⟩
  · skip
    have hq8l : (0 : Int64).toInt = 0 := (by decide)
    have hq8h := Jvm.Kit.i64_of_i32 ((nI n2 - 1))
    exact g_zret X hrt rfl dX8_isPost_12 (by decide) (by decide) ⟨C, D, F, I, K, Or.inl rfl⟩
  · skip
    have hq8l : (0 : Int64).toInt = 0 := (by decide)
    have hq8h := Jvm.Kit.i64_of_i32 ((nI n2 - 1))
    exact g_zret X hrt rfl dX8_isPost_12 (by decide) (by decide) ⟨C, D, F, I, K, Or.inr ⟨rfl, by omega, by omega⟩⟩
set_option maxHeartbeats 4000000 in
set_option maxRecDepth 100000 in
theorem s_X8_isInn (l : Launch) (G : va_G) {cy : Nat → ClassId} {L : List Nat} {M : Nat → va_E} {a : Nat → Nat} {act : Nat → Bool} {C0 : Nat → Nat → Int32} {D0 : Nat → Nat → Int64} {R : Nat → Nat → Option Nat} (F : WI L M a act (ent cy a C0 D0 R)) (I : Inv C0) (p0 : Int64)  : MI l G cy yX8_isInn cX8_isInn 3 (some .boolean) 1 0 0 [.ref (a 100), .long p0] L M (fun r L2 M2 => ∃ C2 D2, WI L2 M2 a act (ent cy a C2 D2 R) ∧ Inv C2 ∧ Kp [] C0 D0 C2 D2 ∧ (r = 0 ∨ (r = 1 ∧ 0 ≤ p0.toInt ∧ p0.toInt ≤ 3))) := by
  refine MI.of (own := RX8) rfl (by decide) (Nat.le_of_ble_eq_true rfl) ?_
  intro p e s m below meth c A X hrt hnm
  obtain ⟨C, D, hC0, hD0, F, I, K⟩ : ∃ C D, C = C0 ∧ D = D0 ∧ WI L M a act (ent cy a C D R) ∧ Inv C ∧ Kp [] C0 D0 C D := ⟨C0, D0, rfl, rfl, F, I, Kp.rf⟩
  obtain ⟨n1, hn1, en1⟩ := rg_nat ((show okw 0 (C 101 0) from I 101 0).1 rfl) (by decide)
  rw [hC0] at en1
  obtain ⟨n2, hn2, en2⟩ := rg_nat ((show okw 4 (C 101 4) from I 101 4).2.2.2.1 rfl) (by decide)
  rw [hC0] at en2
  obtain ⟨n3, hn3, en3⟩ := rg_nat ((show okw 7 (C 101 7) from I 101 7).2.2.2.2.1 rfl) (by decide)
  rw [hC0] at en3
  refine g_lload_n X dX8_isInn_0 rfl (j := 1) rfl ?_
  refine g_lconst X dX8_isInn_1 (v := 0) (by decide) ?_
  refine g_aload_n X dX8_isInn_2 rfl (j := 0) rfl ?_
  refine i_get X F 100 rfl rfl fk_X8_9 dX8_isInn_3 rfl ?_
  refine g_iconst X dX8_isInn_6 (v := 3) (by decide) ?_
  obtain ⟨n4, hn4, en4⟩ := rg_nat ((show okw (3) (C 101 (3)) from I 101 (3)).2.2.1 rfl) (by decide)
  refine i_iald X F 101 rfl rfl dX8_isInn_7 (vp_in_iff.mpr (by decide)) (v := nI n4) (by exact en4) ?_
  refine g_iconst X dX8_isInn_8 (v := 1) (by decide) ?_
  refine g_isub X dX8_isInn_9 ?_
  have hs5 := nI_m1 (n := n4) (by omega)
  refine g_i2l X dX8_isInn_10 rfl ?_
  refine g_callSI X (s_X8_in l G F I p0 (0 : Int64) ((Int32.toInt64 ((nI n4 - 1)))) ) lk_X8_94 rfl rfl dX8_isInn_11 (Nat.le_of_ble_eq_true rfl) ⟨by decide, by decide⟩ ⟨by decide, by decide⟩ (fun r6 L M hp => ?_)
  obtain ⟨C, D, F, I, K1, hr⟩ := hp
  have K := K.step K1 (by decide)
  rcases hr with ⟨rfl, hq7⟩ | ⟨rfl, hq7⟩
  · skip
    have hq7l : (0 : Int64).toInt = 0 := (by decide)
    have hq7h := Jvm.Kit.i64_of_i32 ((nI n4 - 1))
    exact g_zret X hrt rfl dX8_isInn_14 (by decide) (by decide) ⟨C, D, F, I, K, Or.inl rfl⟩
  · skip
    have hq7l : (0 : Int64).toInt = 0 := (by decide)
    have hq7h := Jvm.Kit.i64_of_i32 ((nI n4 - 1))
    exact g_zret X hrt rfl dX8_isInn_14 (by decide) (by decide) ⟨C, D, F, I, K, Or.inr ⟨rfl, by omega, by omega⟩⟩
set_option maxHeartbeats 4000000 in
set_option maxRecDepth 100000 in
theorem s_X8_isWalker (l : Launch) (G : va_G) {cy : Nat → ClassId} {L : List Nat} {M : Nat → va_E} {a : Nat → Nat} {act : Nat → Bool} {C0 : Nat → Nat → Int32} {D0 : Nat → Nat → Int64} {R : Nat → Nat → Option Nat} (F : WI L M a act (ent cy a C0 D0 R)) (I : Inv C0) (p0 : Int64)  : MI l G cy yX8_isWalker cX8_isWalker 3 (some .boolean) 1 0 0 [.ref (a 100), .long p0] L M (fun r L2 M2 => ∃ C2 D2, WI L2 M2 a act (ent cy a C2 D2 R) ∧ Inv C2 ∧ Kp [] C0 D0 C2 D2 ∧ (r = 0 ∨ (r = 1 ∧ 0 ≤ p0.toInt ∧ p0.toInt ≤ 7))) := by
  refine MI.of (own := RX8) rfl (by decide) (Nat.le_of_ble_eq_true rfl) ?_
  intro p e s m below meth c A X hrt hnm
  obtain ⟨C, D, hC0, hD0, F, I, K⟩ : ∃ C D, C = C0 ∧ D = D0 ∧ WI L M a act (ent cy a C D R) ∧ Inv C ∧ Kp [] C0 D0 C D := ⟨C0, D0, rfl, rfl, F, I, Kp.rf⟩
  obtain ⟨n1, hn1, en1⟩ := rg_nat ((show okw 0 (C 101 0) from I 101 0).1 rfl) (by decide)
  rw [hC0] at en1
  obtain ⟨n2, hn2, en2⟩ := rg_nat ((show okw 4 (C 101 4) from I 101 4).2.2.2.1 rfl) (by decide)
  rw [hC0] at en2
  obtain ⟨n3, hn3, en3⟩ := rg_nat ((show okw 7 (C 101 7) from I 101 7).2.2.2.2.1 rfl) (by decide)
  rw [hC0] at en3
  refine g_lload_n X dX8_isWalker_0 rfl (j := 1) rfl ?_
  refine g_lconst X dX8_isWalker_1 (v := 0) (by decide) ?_
  refine g_aload_n X dX8_isWalker_2 rfl (j := 0) rfl ?_
  refine g_callVI X (s_X8_walkers l G F I  ) lk_X8_109 (F.1 100 rfl).2 (F.1 100 rfl).1 rfl rfl dX8_isWalker_3 (Nat.le_of_ble_eq_true rfl) ⟨by decide, by decide⟩ ⟨by decide, by decide⟩ (fun r4 L M hp => ?_)
  obtain ⟨C, D, F, I, K1, hr⟩ := hp
  have K := K.step K1 (by decide)
  obtain ⟨n5, hn5, en5, rfl⟩ := hr
  obtain rfl : n3 = n5 := ((nI_eq (by omega) (by omega)).mp (en5.symm.trans ((congrFun (K 101 (by decide)).1 7).trans en3))).symm
  refine g_iconst X dX8_isWalker_6 (v := 1) (by decide) ?_
  refine g_isub X dX8_isWalker_7 ?_
  have hs6 := nI_m1 (n := n3) (by omega)
  refine g_i2l X dX8_isWalker_8 rfl ?_
  refine g_callSI X (s_X8_in l G F I p0 (0 : Int64) ((Int32.toInt64 ((nI n3 - 1)))) ) lk_X8_94 rfl rfl dX8_isWalker_9 (Nat.le_of_ble_eq_true rfl) ⟨by decide, by decide⟩ ⟨by decide, by decide⟩ (fun r7 L M hp => ?_)
  obtain ⟨C, D, F, I, K1, hr⟩ := hp
  have K := K.step K1 (by decide)
  rcases hr with ⟨rfl, hq8⟩ | ⟨rfl, hq8⟩
  · skip
    have hq8l : (0 : Int64).toInt = 0 := (by decide)
    have hq8h := Jvm.Kit.i64_of_i32 ((nI n3 - 1))
    exact g_zret X hrt rfl dX8_isWalker_12 (by decide) (by decide) ⟨C, D, F, I, K, Or.inl rfl⟩
  · skip
    have hq8l : (0 : Int64).toInt = 0 := (by decide)
    have hq8h := Jvm.Kit.i64_of_i32 ((nI n3 - 1))
    exact g_zret X hrt rfl dX8_isWalker_12 (by decide) (by decide) ⟨C, D, F, I, K, Or.inr ⟨rfl, by omega, by omega⟩⟩
set_option maxHeartbeats 4000000 in
set_option maxRecDepth 100000 in
theorem s_X8_isPlace (l : Launch) (G : va_G) {cy : Nat → ClassId} {L : List Nat} {M : Nat → va_E} {a : Nat → Nat} {act : Nat → Bool} {C0 : Nat → Nat → Int32} {D0 : Nat → Nat → Int64} {R : Nat → Nat → Option Nat} (F : WI L M a act (ent cy a C0 D0 R)) (I : Inv C0) (p0 : Int64)  : MI l G cy yX8_isPlace cX8_isPlace 3 (some .boolean) 2 0 0 [.ref (a 100), .long p0] L M (fun r L2 M2 => ∃ C2 D2, WI L2 M2 a act (ent cy a C2 D2 R) ∧ Inv C2 ∧ Kp [] C0 D0 C2 D2 ∧ (r = 0 ∨ r = 1)) := by
  refine MI.of (own := RX8) rfl (by decide) (Nat.le_of_ble_eq_true rfl) ?_
  intro p e s m below meth c A X hrt hnm
  obtain ⟨C, D, hC0, hD0, F, I, K⟩ : ∃ C D, C = C0 ∧ D = D0 ∧ WI L M a act (ent cy a C D R) ∧ Inv C ∧ Kp [] C0 D0 C D := ⟨C0, D0, rfl, rfl, F, I, Kp.rf⟩
  obtain ⟨n1, hn1, en1⟩ := rg_nat ((show okw 0 (C 101 0) from I 101 0).1 rfl) (by decide)
  rw [hC0] at en1
  obtain ⟨n2, hn2, en2⟩ := rg_nat ((show okw 4 (C 101 4) from I 101 4).2.2.2.1 rfl) (by decide)
  rw [hC0] at en2
  obtain ⟨n3, hn3, en3⟩ := rg_nat ((show okw 7 (C 101 7) from I 101 7).2.2.2.2.1 rfl) (by decide)
  rw [hC0] at en3
  refine g_aload_n X dX8_isPlace_0 rfl (j := 0) rfl ?_
  refine g_lload_n X dX8_isPlace_1 rfl (j := 1) rfl ?_
  refine g_callVI X (s_X8_isPost l G F I p0 ) lk_X8_112 (F.1 100 rfl).2 (F.1 100 rfl).1 rfl rfl dX8_isPlace_2 (Nat.le_of_ble_eq_true rfl) ⟨by decide, by decide⟩ ⟨by decide, by decide⟩ (fun r4 L M hp => ?_)
  obtain ⟨C, D, F, I, K1, hr⟩ := hp
  have K := K.step K1 (by decide)
  rcases hr with rfl | ⟨rfl, hl5a, hl5b⟩
  · skip
    refine g_if_ne X dX8_isPlace_5 (tgt := 20) (by decide) (fun q => absurd (by decide) q) (fun _ => ?_)
    refine g_aload_n X dX8_isPlace_8 rfl (j := 0) rfl ?_
    refine g_lload_n X dX8_isPlace_9 rfl (j := 1) rfl ?_
    refine g_ldc2 X (v := 10) wd670 dX8_isPlace_10 ?_
    refine g_lsub X dX8_isPlace_13 ?_
    refine Go.genL (fun o6 => ?_)
    refine g_callVI X (s_X8_isInn l G F I o6 ) lk_X8_118 (F.1 100 rfl).2 (F.1 100 rfl).1 rfl rfl dX8_isPlace_14 (Nat.le_of_ble_eq_true rfl) ⟨by decide, by decide⟩ ⟨by decide, by decide⟩ (fun r7 L M hp => ?_)
    obtain ⟨C, D, F, I, K1, hr⟩ := hp
    have K := K.step K1 (by decide)
    rcases hr with rfl | ⟨rfl, hl8a, hl8b⟩
    · skip
      refine g_if_eq X dX8_isPlace_17 (tgt := 24) (by decide) (fun _ => ?_) (fun q => absurd (by decide) q)
      refine g_iconst X dX8_isPlace_24 (v := 0) (by decide) ?_
      exact g_zret X hrt rfl dX8_isPlace_25 (by decide) (by decide) ⟨C, D, F, I, K, Or.inl rfl⟩
    · skip
      refine g_if_eq X dX8_isPlace_17 (tgt := 24) (by decide) (fun q => absurd q (by decide)) (fun _ => ?_)
      refine g_iconst X dX8_isPlace_20 (v := 1) (by decide) ?_
      refine g_goto X dX8_isPlace_21 (tgt := 25) (by decide) ?_
      exact g_zret X hrt rfl dX8_isPlace_25 (by decide) (by decide) ⟨C, D, F, I, K, Or.inr rfl⟩
  · skip
    refine g_if_ne X dX8_isPlace_5 (tgt := 20) (by decide) (fun _ => ?_) (fun q => absurd q (by decide))
    refine g_iconst X dX8_isPlace_20 (v := 1) (by decide) ?_
    refine g_goto X dX8_isPlace_21 (tgt := 25) (by decide) ?_
    exact g_zret X hrt rfl dX8_isPlace_25 (by decide) (by decide) ⟨C, D, F, I, K, Or.inr rfl⟩
set_option maxHeartbeats 4000000 in
set_option maxRecDepth 100000 in
theorem s_X8_roadMany (l : Launch) (G : va_G) {cy : Nat → ClassId} {L : List Nat} {M : Nat → va_E} {a : Nat → Nat} {act : Nat → Bool} {C0 : Nat → Nat → Int32} {D0 : Nat → Nat → Int64} {R : Nat → Nat → Option Nat} (F : WI L M a act (ent cy a C0 D0 R)) (I : Inv C0) (p0 : Nat) (hp0a : 0 ≤ p0) (hp0b : p0 ≤ 6)  : MI l G cy yX8_roadMany cX8_roadMany 2 (some .int) 0 0 0 [.ref (a 100), .int (nI p0)] L M (fun r L2 M2 => ∃ C2 D2, WI L2 M2 a act (ent cy a C2 D2 R) ∧ Inv C2 ∧ Kp [] C0 D0 C2 D2 ∧ (∃ n : Nat, n ≤ 4 ∧ C2 101 (14 + 6 * p0) = nI n ∧ r = nI n)) := by
  refine MI.of (own := RX8) rfl (by decide) (Nat.le_of_ble_eq_true rfl) ?_
  intro p e s m below meth c A X hrt hnm
  obtain ⟨C, D, hC0, hD0, F, I, K⟩ : ∃ C D, C = C0 ∧ D = D0 ∧ WI L M a act (ent cy a C D R) ∧ Inv C ∧ Kp [] C0 D0 C D := ⟨C0, D0, rfl, rfl, F, I, Kp.rf⟩
  refine g_aload_n X dX8_roadMany_0 rfl (j := 0) rfl ?_
  refine i_get X F 100 rfl rfl fk_X8_9 dX8_roadMany_1 rfl ?_
  refine g_bipush X dX8_roadMany_4 (v := 14) (by decide) ?_
  refine g_bipush X dX8_roadMany_6 (v := 6) (by decide) ?_
  refine g_iload_n X dX8_roadMany_8 rfl (j := 1) rfl ?_
  refine g_imul X dX8_roadMany_9 ?_
  refine Go.top (v := .int (nI (6 * p0))) (congrArg Value.int (pk_mul 6 p0)) ?_
  refine g_iadd X dX8_roadMany_10 ?_
  refine Go.top (v := .int (nI (14 + (6 * p0)))) (congrArg Value.int (nI_add 14 (6 * p0))) ?_
  obtain ⟨n1, hn1, en1⟩ := rg_nat ((show okw (14 + (6 * p0)) (C 101 (14 + (6 * p0))) from I 101 (14 + (6 * p0))).2.2.2.2.2.2.1 (by omega) (by omega) (by omega)) (by decide)
  refine i_iald X F 101 rfl rfl dX8_roadMany_11 (vp_in_nI (by omega) (by decide)) (v := nI n1) (by rw [nI_clamp (by omega)]; exact en1) ?_
  exact g_iret X hrt dX8_roadMany_12 (by decide) (by decide) ⟨C, D, F, I, K, ⟨n1, by omega, en1, rfl⟩⟩
set_option maxHeartbeats 4000000 in
set_option maxRecDepth 100000 in
theorem s_X8_roadTo (l : Launch) (G : va_G) {cy : Nat → ClassId} {L : List Nat} {M : Nat → va_E} {a : Nat → Nat} {act : Nat → Bool} {C0 : Nat → Nat → Int32} {D0 : Nat → Nat → Int64} {R : Nat → Nat → Option Nat} (F : WI L M a act (ent cy a C0 D0 R)) (I : Inv C0) (p0 : Nat) (hp0a : 0 ≤ p0) (hp0b : p0 ≤ 6) (p1 : Nat) (hp1a : 0 ≤ p1) (hp1b : p1 ≤ 3)  : MI l G cy yX8_roadTo cX8_roadTo 3 (some .int) 0 0 0 [.ref (a 100), .int (nI p0), .int (nI p1)] L M (fun r L2 M2 => ∃ C2 D2, WI L2 M2 a act (ent cy a C2 D2 R) ∧ Inv C2 ∧ Kp [] C0 D0 C2 D2 ∧ ∃ n : Nat, (n < 7 ∨ (10 ≤ n ∧ n < 14)) ∧ r = nI n) := by
  refine MI.of (own := RX8) rfl (by decide) (Nat.le_of_ble_eq_true rfl) ?_
  intro p e s m below meth c A X hrt hnm
  obtain ⟨C, D, hC0, hD0, F, I, K⟩ : ∃ C D, C = C0 ∧ D = D0 ∧ WI L M a act (ent cy a C D R) ∧ Inv C ∧ Kp [] C0 D0 C D := ⟨C0, D0, rfl, rfl, F, I, Kp.rf⟩
  refine g_aload_n X dX8_roadTo_0 rfl (j := 0) rfl ?_
  refine i_get X F 100 rfl rfl fk_X8_9 dX8_roadTo_1 rfl ?_
  refine g_bipush X dX8_roadTo_4 (v := 14) (by decide) ?_
  refine g_bipush X dX8_roadTo_6 (v := 6) (by decide) ?_
  refine g_iload_n X dX8_roadTo_8 rfl (j := 1) rfl ?_
  refine g_imul X dX8_roadTo_9 ?_
  refine Go.top (v := .int (nI (6 * p0))) (congrArg Value.int (pk_mul 6 p0)) ?_
  refine g_iadd X dX8_roadTo_10 ?_
  refine Go.top (v := .int (nI (14 + (6 * p0)))) (congrArg Value.int (nI_add 14 (6 * p0))) ?_
  refine g_iconst X dX8_roadTo_11 (v := 1) (by decide) ?_
  refine g_iadd X dX8_roadTo_12 ?_
  refine Go.top (v := .int (nI ((14 + (6 * p0)) + 1))) (congrArg Value.int (nI_add (14 + (6 * p0)) 1)) ?_
  refine g_iload_n X dX8_roadTo_13 rfl (j := 2) rfl ?_
  refine g_iadd X dX8_roadTo_14 ?_
  refine Go.top (v := .int (nI (((14 + (6 * p0)) + 1) + p1))) (congrArg Value.int (nI_add ((14 + (6 * p0)) + 1) p1)) ?_
  obtain ⟨n1, hn1, en1⟩ := gl_nat ((show okw (((14 + (6 * p0)) + 1) + p1) (C 101 (((14 + (6 * p0)) + 1) + p1)) from I 101 (((14 + (6 * p0)) + 1) + p1)).2.2.2.2.2.2.2.2.1 (by omega) (by omega) (by omega) (by omega))
  refine i_iald X F 101 rfl rfl dX8_roadTo_15 (vp_in_nI (by omega) (by decide)) (v := nI n1) (by rw [nI_clamp (by omega)]; exact en1) ?_
  exact g_iret X hrt dX8_roadTo_16 (by decide) (by decide) ⟨C, D, F, I, K, ⟨n1, by omega, rfl⟩⟩
set_option maxHeartbeats 4000000 in
set_option maxRecDepth 100000 in
theorem s_X8_armOf (l : Launch) (G : va_G) {cy : Nat → ClassId} {L : List Nat} {M : Nat → va_E} {a : Nat → Nat} {act : Nat → Bool} {C0 : Nat → Nat → Int32} {D0 : Nat → Nat → Int64} {R : Nat → Nat → Option Nat} (F : WI L M a act (ent cy a C0 D0 R)) (I : Inv C0) (p0 : Nat) (hp0a : 0 ≤ p0) (hp0b : p0 ≤ 6)  : MI l G cy yX8_armOf cX8_armOf 2 (some .int) 0 0 0 [.ref (a 100), .int (nI p0)] L M (fun r L2 M2 => ∃ C2 D2, WI L2 M2 a act (ent cy a C2 D2 R) ∧ Inv C2 ∧ Kp [] C0 D0 C2 D2 ∧ ∃ n : Nat, 0 ≤ n ∧ n ≤ 3 ∧ r = nI n) := by
  refine MI.of (own := RX8) rfl (by decide) (Nat.le_of_ble_eq_true rfl) ?_
  intro p e s m below meth c A X hrt hnm
  obtain ⟨C, D, hC0, hD0, F, I, K⟩ : ∃ C D, C = C0 ∧ D = D0 ∧ WI L M a act (ent cy a C D R) ∧ Inv C ∧ Kp [] C0 D0 C D := ⟨C0, D0, rfl, rfl, F, I, Kp.rf⟩
  refine g_aload_n X dX8_armOf_0 rfl (j := 0) rfl ?_
  refine i_get X F 100 rfl rfl fk_X8_9 dX8_armOf_1 rfl ?_
  refine g_bipush X dX8_armOf_4 (v := 14) (by decide) ?_
  refine g_bipush X dX8_armOf_6 (v := 6) (by decide) ?_
  refine g_iload_n X dX8_armOf_8 rfl (j := 1) rfl ?_
  refine g_imul X dX8_armOf_9 ?_
  refine Go.top (v := .int (nI (6 * p0))) (congrArg Value.int (pk_mul 6 p0)) ?_
  refine g_iadd X dX8_armOf_10 ?_
  refine Go.top (v := .int (nI (14 + (6 * p0)))) (congrArg Value.int (nI_add 14 (6 * p0))) ?_
  refine g_iconst X dX8_armOf_11 (v := 1) (by decide) ?_
  refine g_iadd X dX8_armOf_12 ?_
  refine Go.top (v := .int (nI ((14 + (6 * p0)) + 1))) (congrArg Value.int (nI_add (14 + (6 * p0)) 1)) ?_
  refine g_iconst X dX8_armOf_13 (v := 4) (by decide) ?_
  refine g_iadd X dX8_armOf_14 ?_
  refine Go.top (v := .int (nI (((14 + (6 * p0)) + 1) + 4))) (congrArg Value.int (nI_add ((14 + (6 * p0)) + 1) 4)) ?_
  obtain ⟨n1, hn1, en1⟩ := rg_nat ((show okw (((14 + (6 * p0)) + 1) + 4) (C 101 (((14 + (6 * p0)) + 1) + 4)) from I 101 (((14 + (6 * p0)) + 1) + 4)).2.2.2.2.2.2.2.1 (by omega) (by omega) (by omega)) (by decide)
  refine i_iald X F 101 rfl rfl dX8_armOf_15 (vp_in_nI (by omega) (by decide)) (v := nI n1) (by rw [nI_clamp (by omega)]; exact en1) ?_
  exact g_iret X hrt dX8_armOf_16 (by decide) (by decide) ⟨C, D, F, I, K, ⟨n1, by omega, by omega, rfl⟩⟩
