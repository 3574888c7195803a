set_option maxHeartbeats 4000000 in
set_option maxRecDepth 100000 in
theorem s_J7_fill_d0a16_40 (l : Launch) (G : va_G) {cy : Nat → ClassId} {L : List Nat} {M : Nat → va_E} {a : Nat → Nat} {act : Nat → Bool} {C0 : Nat → Nat → Int32} {D0 : Nat → Nat → Int64} {R : Nat → Nat → Option Nat} (F : WI L M a act (ent cy a C0 D0 R)) (I : Inv C0)   : MV l G cy yJ7_fill_d0a16 cJ7_fill_d0a16 5 none 0 0 0 [.ref (a 40), .long 0] L M (fun L2 M2 => ∃ C2 D2, WI L2 M2 a act (ent cy a C2 D2 R) ∧ Inv C2 ∧ Kp [40] C0 D0 C2 D2 ∧ True) := by
  refine MV.of (own := RJ7) rfl (by decide) (Nat.le_of_ble_eq_true rfl) ?_
  intro p e s m below meth c A X hrt hnm
  obtain ⟨C, D, hC0, hD0, F, I, K⟩ : ∃ C D, C = C0 ∧ D = D0 ∧ WI L M a act (ent cy a C D R) ∧ Inv C ∧ Kp [40] C0 D0 C D := ⟨C0, D0, rfl, rfl, F, I, Kp.rf⟩
  refine g_iconst X dJ7_fill_d0a16_0 (v := 0) (by decide) ?_
  refine g_istore_n X dJ7_fill_d0a16_1 rfl (by decide) (lv2 := [(3, .int 0), (0, .ref (a 40)), (1, .long 0)]) rfl ?_
  refine g_aload_n X dJ7_fill_d0a16_2 rfl (j := 1) rfl ?_
  refine i_alen X F 40 rfl rfl (t0 := 2) rfl dJ7_fill_d0a16_3 (v := 8) rfl ?_
  refine g_istore X dJ7_fill_d0a16_4 (by decide) (lv2 := [(4, .int 8), (3, .int 0), (0, .ref (a 40)), (1, .long 0)]) rfl ?_
  refine g_lv [1, 0, 2, 3] (lv2 := [(3, .int 0), (4, .int 8), (0, .ref (a 40)), (1, .long 0)]) rfl ?_
  refine i_loop (mods := [40]) (fun x : Nat => 8 - x) (fun x => [(3, .int (nI (x))), (4, .int 8), (0, .ref (a 40)), (1, .long 0)]) (fun x C => 0 ≤ x ∧ x ≤ 8) (fun x L M C D F I K hP ih6 => ?_) ((0) : Nat) F I K ⟨by show _ ≤ _; omega, by show _ ≤ _; omega⟩
  obtain ⟨i6_3, rfl⟩ : ∃ z, z = x := ⟨_, rfl⟩
  obtain ⟨hi6_3a, hi6_3b⟩ := hP
  refine g_lv [0, 1, 2, 3] (lv2 := [(3, .int (nI i6_3)), (4, .int 8), (0, .ref (a 40)), (1, .long 0)]) rfl ?_
  refine g_iload_n X dJ7_fill_d0a16_6 rfl (j := 0) rfl ?_
  refine g_iload X dJ7_fill_d0a16_7 (j := 1) rfl ?_
  refine g_icmp_ge X dJ7_fill_d0a16_9 (tgt := 22) (by decide) (fun q1 => ?_) (fun q1 => ?_)
  · skip
    have q1 : 8 ≤ i6_3 := (nI_leI (a := 8) (b := i6_3) (by omega) (by omega)).mp q1
    exact g_vret X hrt dJ7_fill_d0a16_22 (by decide) (by decide) ⟨C, D, F, I, K, trivial⟩
  · skip
    have q1 : ¬ 8 ≤ i6_3 := fun z => q1 ((nI_leI (a := 8) (b := i6_3) (by omega) (by omega)).mpr z)
    refine g_aload_n X dJ7_fill_d0a16_12 rfl (j := 2) rfl ?_
    refine g_iload_n X dJ7_fill_d0a16_13 rfl (j := 0) rfl ?_
    refine g_lload_n X dJ7_fill_d0a16_14 rfl (j := 3) rfl ?_
    refine i_last X F 40 rfl (fun _ => rfl) dJ7_fill_d0a16_15 (vp_in_nI (by omega) (by decide)) (fun M D F K1 hC => ?_)
    have K := K.step K1 (by decide)
    refine g_iinc X dJ7_fill_d0a16_16 (j := 0) rfl (v := nI (i6_3 + 1)) (nI_1 i6_3) (by decide) (lv2 := [(3, .int (nI (i6_3 + 1))), (4, .int 8), (0, .ref (a 40)), (1, .long 0)]) rfl ?_
    refine g_goto X dJ7_fill_d0a16_19 (tgt := 6) (by decide) ?_
    refine g_lv [0, 1, 2, 3] (lv2 := [(3, .int (nI (i6_3 + 1))), (4, .int 8), (0, .ref (a 40)), (1, .long 0)]) rfl ?_
    exact ih6 ((i6_3 + 1)) L M C D F I K ⟨by omega, by omega⟩ (by show _ < _; omega)
set_option maxHeartbeats 4000000 in
set_option maxRecDepth 100000 in
theorem s_X7_nth (l : Launch) (G : va_G) {cy : Nat → ClassId} {L : List Nat} {M : Nat → va_E} {a : Nat → Nat} {act : Nat → Bool} {C0 : Nat → Nat → Int32} {D0 : Nat → Nat → Int64} {R : Nat → Nat → Option Nat} (F : WI L M a act (ent cy a C0 D0 R)) (I : Inv C0) (p0 : Int32) (p1 : Int32)  : MI l G cy yX7_nth cX7_nth 5 (some .int) 2 0 0 [.ref (a 0), .int p0, .int p1] L M (fun r L2 M2 => ∃ C2 D2, WI L2 M2 a act (ent cy a C2 D2 R) ∧ Inv C2 ∧ Kp [37, 38] C0 D0 C2 D2 ∧ True) := by
  refine MI.of (own := RX7) rfl (by decide) (Nat.le_of_ble_eq_true rfl) ?_
  intro p e s m below meth c A X hrt hnm
  obtain ⟨C, D, hC0, hD0, F, I, K⟩ : ∃ C D, C = C0 ∧ D = D0 ∧ WI L M a act (ent cy a C D R) ∧ Inv C ∧ Kp [37, 38] C0 D0 C D := ⟨C0, D0, rfl, rfl, F, I, Kp.rf⟩
  refine g_aload_n X dX7_nth_0 rfl (j := 0) rfl ?_
  refine i_get X F 0 rfl rfl fk_X7_19 dX7_nth_1 rfl ?_
  refine g_iload_n X dX7_nth_4 rfl (j := 1) rfl ?_
  refine g_callVI X (s_X2_hasPost l G F I p0 ) lk_X7_106 (F.1 3 rfl).2 (F.1 3 rfl).1 rfl rfl dX7_nth_5 (Nat.le_of_ble_eq_true rfl) ⟨by decide, by decide⟩ ⟨by decide, by decide⟩ (fun r1 L M hp => ?_)
  obtain ⟨C, D, F, I, K1, hr⟩ := hp
  have K := K.step K1 (by decide)
  rcases hr with rfl | ⟨rfl, n2, hn2a, hn2b, en2⟩
  · skip
    refine g_if_eq X dX7_nth_8 (tgt := 18) (by decide) (fun _ => ?_) (fun q => absurd (by decide) q)
    refine g_bipush X dX7_nth_18 (v := -2) (by decide) ?_
    exact g_iret X hrt dX7_nth_20 (by decide) (by decide) ⟨C, D, F, I, K, trivial⟩
  · skip
    subst en2
    refine g_if_eq X dX7_nth_8 (tgt := 18) (by decide) (fun q => absurd q (by decide)) (fun _ => ?_)
    refine g_iload_n X dX7_nth_11 rfl (j := 2) rfl ?_
    refine g_callSI X (s_X7_isFewInARow l G F I p1 ) lk_X7_246 rfl rfl dX7_nth_12 (Nat.le_of_ble_eq_true rfl) ⟨by decide, by decide⟩ ⟨by decide, by decide⟩ (fun r3 L M hp => ?_)
    obtain ⟨C, D, F, I, K1, hr⟩ := hp
    have K := K.step K1 (by decide)
    rcases hr with rfl | ⟨rfl, n4, hn4a, hn4b, en4⟩
    · skip
      refine g_if_ne X dX7_nth_15 (tgt := 21) (by decide) (fun q => absurd (by decide) q) (fun _ => ?_)
      refine g_bipush X dX7_nth_18 (v := -2) (by decide) ?_
      exact g_iret X hrt dX7_nth_20 (by decide) (by decide) ⟨C, D, F, I, K, trivial⟩
    · skip
      subst en4
      refine g_if_ne X dX7_nth_15 (tgt := 21) (by decide) (fun _ => ?_) (fun q => absurd q (by decide))
      refine g_aload_n X dX7_nth_21 rfl (j := 0) rfl ?_
      refine i_get X F 0 rfl rfl fk_X7_51 dX7_nth_22 rfl ?_
      refine g_callVV X (s_X3_begin l G F I  ) lk_X7_234 (F.1 37 rfl).2 (F.1 37 rfl).1 rfl rfl dX7_nth_25 (Nat.le_of_ble_eq_true rfl) ⟨by decide, by decide⟩ ⟨by decide, by decide⟩ (fun L M hp => ?_)
      obtain ⟨C, D, F, I, K1, hr⟩ := hp
      have K := K.step K1 (by decide)
      refine g_iconst X dX7_nth_28 (v := -1) (by decide) ?_
      refine g_istore_n X dX7_nth_29 rfl (by decide) (lv2 := [(3, .int (-1)), (0, .ref (a 0)), (1, .int (nI n2)), (2, .int (nI n4))]) rfl ?_
      refine g_iconst X dX7_nth_30 (v := 0) (by decide) ?_
      refine g_istore X dX7_nth_31 (by decide) (lv2 := [(4, .int 0), (3, .int (-1)), (0, .ref (a 0)), (1, .int (nI n2)), (2, .int (nI n4))]) rfl ?_
      refine g_lv [0, 1, 2, 3, 4] (lv2 := [(4, .int 0), (3, .int (-1)), (0, .ref (a 0)), (1, .int (nI n2)), (2, .int (nI n4))]) rfl ?_
      refine i_loop (mods := [37, 38]) (fun x : Nat × Int32 => 20 - x.1) (fun x => [(4, .int (nI (x.1))), (3, .int (x.2)), (0, .ref (a 0)), (1, .int (nI n2)), (2, .int (nI n4))]) (fun x C => 0 ≤ x.1 ∧ x.1 ≤ 20) (fun x L M C D F I K hP ih33 => ?_) ((0, (-1)) : Nat × Int32) F I K ⟨by show _ ≤ _; omega, by show _ ≤ _; omega⟩
      rcases x with ⟨i33_4, v33_3⟩
      obtain ⟨hi33_4a, hi33_4b⟩ := hP
      refine g_lv [0, 1, 2, 3, 4] (lv2 := [(4, .int (nI i33_4)), (3, .int v33_3), (0, .ref (a 0)), (1, .int (nI n2)), (2, .int (nI n4))]) rfl ?_
      refine g_iload X dX7_nth_33 (j := 0) rfl ?_
      refine g_iload_n X dX7_nth_35 rfl (j := 4) rfl ?_
      refine g_icmp_ge X dX7_nth_36 (tgt := 61) (by decide) (fun q5 => ?_) (fun q5 => ?_)
      · skip
        have q5 : n4 ≤ i33_4 := (nI_leI (a := n4) (b := i33_4) (by omega) (by omega)).mp q5
        refine g_iload_n X dX7_nth_61 rfl (j := 1) rfl ?_
        exact g_iret X hrt dX7_nth_62 (by decide) (by decide) ⟨C, D, F, I, K, trivial⟩
      · skip
        have q5 : ¬ n4 ≤ i33_4 := fun z => q5 ((nI_leI (a := n4) (b := i33_4) (by omega) (by omega)).mpr z)
        refine g_aload_n X dX7_nth_39 rfl (j := 2) rfl ?_
        refine i_get X F 0 rfl rfl fk_X7_51 dX7_nth_40 rfl ?_
        refine g_iload_n X dX7_nth_43 rfl (j := 3) rfl ?_
        refine g_callVI X (s_X3_sendFrom l G F I n2 (by omega) (by omega) ) lk_X7_237 (F.1 37 rfl).2 (F.1 37 rfl).1 rfl rfl dX7_nth_44 (Nat.le_of_ble_eq_true rfl) ⟨by decide, by decide⟩ ⟨by decide, by decide⟩ (fun r6 L M hp => ?_)
        obtain ⟨C, D, F, I, K1, hr⟩ := hp
        have K := K.step K1 (by decide)
        refine g_istore_n X dX7_nth_47 rfl (by decide) (lv2 := [(3, .int r6), (4, .int (nI i33_4)), (0, .ref (a 0)), (1, .int (nI n2)), (2, .int (nI n4))]) rfl ?_
        refine g_iload_n X dX7_nth_48 rfl (j := 0) rfl ?_
        refine g_iconst X dX7_nth_49 (v := -1) (by decide) ?_
        refine g_icmp_ne X dX7_nth_50 (tgt := 55) (by decide) (fun q7 => ?_) (fun q7 => ?_)
        · skip
          refine g_iinc X dX7_nth_55 (j := 1) rfl (v := nI (i33_4 + 1)) (nI_1 i33_4) (by decide) (lv2 := [(4, .int (nI (i33_4 + 1))), (3, .int r6), (0, .ref (a 0)), (1, .int (nI n2)), (2, .int (nI n4))]) rfl ?_
          refine g_goto X dX7_nth_58 (tgt := 33) (by decide) ?_
          refine g_lv [0, 1, 2, 3, 4] (lv2 := [(4, .int (nI (i33_4 + 1))), (3, .int r6), (0, .ref (a 0)), (1, .int (nI n2)), (2, .int (nI n4))]) rfl ?_
          exact ih33 ((i33_4 + 1), r6) L M C D F I K ⟨by omega, by omega⟩ (by show _ < _; omega)
        · skip
          subst q7
          refine g_iconst X dX7_nth_53 (v := -1) (by decide) ?_
          exact g_iret X hrt dX7_nth_54 (by decide) (by decide) ⟨C, D, F, I, K, trivial⟩
set_option maxHeartbeats 4000000 in
set_option maxRecDepth 100000 in
theorem s_X7_round (l : Launch) (G : va_G) {cy : Nat → ClassId} {L : List Nat} {M : Nat → va_E} {a : Nat → Nat} {act : Nat → Bool} {C0 : Nat → Nat → Int32} {D0 : Nat → Nat → Int64} {R : Nat → Nat → Option Nat} (F : WI L M a act (ent cy a C0 D0 R)) (I : Inv C0) (p0 : Int32)  : MI l G cy yX7_round cX7_round 4 (some .int) 3 0 0 [.ref (a 0), .int p0] L M (fun r L2 M2 => ∃ C2 D2, WI L2 M2 a act (ent cy a C2 D2 R) ∧ Inv C2 ∧ Kp [37, 38] C0 D0 C2 D2 ∧ True) := by
  refine MI.of (own := RX7) rfl (by decide) (Nat.le_of_ble_eq_true rfl) ?_
  intro p e s m below meth c A X hrt hnm
  obtain ⟨C, D, hC0, hD0, F, I, K⟩ : ∃ C D, C = C0 ∧ D = D0 ∧ WI L M a act (ent cy a C D R) ∧ Inv C ∧ Kp [37, 38] C0 D0 C D := ⟨C0, D0, rfl, rfl, F, I, Kp.rf⟩
  refine g_aload_n X dX7_round_0 rfl (j := 0) rfl ?_
  refine i_get X F 0 rfl rfl fk_X7_19 dX7_round_1 rfl ?_
  refine g_iload_n X dX7_round_4 rfl (j := 1) rfl ?_
  refine g_callVI X (s_X2_hasPost l G F I p0 ) lk_X7_106 (F.1 3 rfl).2 (F.1 3 rfl).1 rfl rfl dX7_round_5 (Nat.le_of_ble_eq_true rfl) ⟨by decide, by decide⟩ ⟨by decide, by decide⟩ (fun r1 L M hp => ?_)
  obtain ⟨C, D, F, I, K1, hr⟩ := hp
  have K := K.step K1 (by decide)
  rcases hr with rfl | ⟨rfl, n2, hn2a, hn2b, en2⟩
  · skip
    refine g_if_ne X dX7_round_8 (tgt := 14) (by decide) (fun q => absurd (by decide) q) (fun _ => ?_)
    refine g_bipush X dX7_round_11 (v := -2) (by decide) ?_
    exact g_iret X hrt dX7_round_13 (by decide) (by decide) ⟨C, D, F, I, K, trivial⟩
  · skip
    subst en2
    refine g_if_ne X dX7_round_8 (tgt := 14) (by decide) (fun _ => ?_) (fun q => absurd q (by decide))
    refine g_aload_n X dX7_round_14 rfl (j := 0) rfl ?_
    refine i_get X F 0 rfl rfl fk_X7_51 dX7_round_15 rfl ?_
    refine g_callVV X (s_X3_begin l G F I  ) lk_X7_234 (F.1 37 rfl).2 (F.1 37 rfl).1 rfl rfl dX7_round_18 (Nat.le_of_ble_eq_true rfl) ⟨by decide, by decide⟩ ⟨by decide, by decide⟩ (fun L M hp => ?_)
    obtain ⟨C, D, F, I, K1, hr⟩ := hp
    have K := K.step K1 (by decide)
    refine g_aload_n X dX7_round_21 rfl (j := 0) rfl ?_
    refine i_get X F 0 rfl rfl fk_X7_51 dX7_round_22 rfl ?_
    refine g_callVI X (s_X3_settingNow l G F I  ) lk_X7_243 (F.1 37 rfl).2 (F.1 37 rfl).1 rfl rfl dX7_round_25 (Nat.le_of_ble_eq_true rfl) ⟨by decide, by decide⟩ ⟨by decide, by decide⟩ (fun r3 L M hp => ?_)
    obtain ⟨C, D, F, I, K1, hr⟩ := hp
    have K := K.step K1 (by decide)
    refine g_istore_n X dX7_round_28 rfl (by decide) (lv2 := [(2, .int r3), (0, .ref (a 0)), (1, .int (nI n2))]) rfl ?_
    refine g_iconst X dX7_round_29 (v := 1) (by decide) ?_
    refine g_istore_n X dX7_round_30 rfl (by decide) (lv2 := [(3, .int 1), (2, .int r3), (0, .ref (a 0)), (1, .int (nI n2))]) rfl ?_
    refine g_lv [0, 1, 2, 3] (lv2 := [(3, .int 1), (2, .int r3), (0, .ref (a 0)), (1, .int (nI n2))]) rfl ?_
    refine i_loop (mods := [37, 38]) (fun x : Nat => 61 - x) (fun x => [(3, .int (nI (x))), (2, .int r3), (0, .ref (a 0)), (1, .int (nI n2))]) (fun x C => 1 ≤ x ∧ x ≤ 61) (fun x L M C D F I K hP ih31 => ?_) ((1) : Nat) F I K ⟨by show _ ≤ _; omega, by show _ ≤ _; omega⟩
    obtain ⟨i31_3, rfl⟩ : ∃ z, z = x := ⟨_, rfl⟩
    obtain ⟨hi31_3a, hi31_3b⟩ := hP
    refine g_lv [0, 1, 2, 3] (lv2 := [(3, .int (nI i31_3)), (2, .int r3), (0, .ref (a 0)), (1, .int (nI n2))]) rfl ?_
    refine g_iload_n X dX7_round_31 rfl (j := 0) rfl ?_
    refine g_bipush X dX7_round_32 (v := 60) (by decide) ?_
    refine g_icmp_gt X dX7_round_34 (tgt := 70) (by decide) (fun q4 => ?_) (fun q4 => ?_)
    · skip
      have q4 : 60 < i31_3 := (nI_ltI (a := 60) (b := i31_3) (by omega) (by omega)).mp q4
      refine g_iconst X dX7_round_70 (v := -1) (by decide) ?_
      exact g_iret X hrt dX7_round_71 (by decide) (by decide) ⟨C, D, F, I, K, trivial⟩
    · skip
      have q4 : ¬ 60 < i31_3 := fun z => q4 ((nI_ltI (a := 60) (b := i31_3) (by omega) (by omega)).mpr z)
      refine g_aload_n X dX7_round_37 rfl (j := 2) rfl ?_
      refine i_get X F 0 rfl rfl fk_X7_51 dX7_round_38 rfl ?_
      refine g_iload_n X dX7_round_41 rfl (j := 3) rfl ?_
      refine g_callVI X (s_X3_sendFrom l G F I n2 (by omega) (by omega) ) lk_X7_237 (F.1 37 rfl).2 (F.1 37 rfl).1 rfl rfl dX7_round_42 (Nat.le_of_ble_eq_true rfl) ⟨by decide, by decide⟩ ⟨by decide, by decide⟩ (fun r5 L M hp => ?_)
      obtain ⟨C, D, F, I, K1, hr⟩ := hp
      have K := K.step K1 (by decide)
      refine g_iconst X dX7_round_45 (v := -1) (by decide) ?_
      refine g_icmp_ne X dX7_round_46 (tgt := 51) (by decide) (fun q6 => ?_) (fun q6 => ?_)
      · skip
        refine g_aload_n X dX7_round_51 rfl (j := 2) rfl ?_
        refine i_get X F 0 rfl rfl fk_X7_51 dX7_round_52 rfl ?_
        refine g_callVI X (s_X3_settingNow l G F I  ) lk_X7_243 (F.1 37 rfl).2 (F.1 37 rfl).1 rfl rfl dX7_round_55 (Nat.le_of_ble_eq_true rfl) ⟨by decide, by decide⟩ ⟨by decide, by decide⟩ (fun r7 L M hp => ?_)
        obtain ⟨C, D, F, I, K1, hr⟩ := hp
        have K := K.step K1 (by decide)
        refine g_iload_n X dX7_round_58 rfl (j := 1) rfl ?_
        refine g_icmp_ne X dX7_round_59 (tgt := 64) (by decide) (fun q8 => ?_) (fun q8 => ?_)
        · skip
          refine g_iinc X dX7_round_64 (j := 0) rfl (v := nI (i31_3 + 1)) (nI_1 i31_3) (by decide) (lv2 := [(3, .int (nI (i31_3 + 1))), (2, .int r3), (0, .ref (a 0)), (1, .int (nI n2))]) rfl ?_
          refine g_goto X dX7_round_67 (tgt := 31) (by decide) ?_
          refine g_lv [0, 1, 2, 3] (lv2 := [(3, .int (nI (i31_3 + 1))), (2, .int r3), (0, .ref (a 0)), (1, .int (nI n2))]) rfl ?_
          exact ih31 ((i31_3 + 1)) L M C D F I K ⟨by omega, by omega⟩ (by show _ < _; omega)
        · skip
          refine g_iload_n X dX7_round_62 rfl (j := 0) rfl ?_
          exact g_iret X hrt dX7_round_63 (by decide) (by decide) ⟨C, D, F, I, K, trivial⟩
      · skip
        subst q6
        refine g_iconst X dX7_round_49 (v := -1) (by decide) ?_
        exact g_iret X hrt dX7_round_50 (by decide) (by decide) ⟨C, D, F, I, K, trivial⟩
set_option maxHeartbeats 4000000 in
set_option maxRecDepth 100000 in
theorem s_X7_houses (l : Launch) (G : va_G) {cy : Nat → ClassId} {L : List Nat} {M : Nat → va_E} {a : Nat → Nat} {act : Nat → Bool} {C0 : Nat → Nat → Int32} {D0 : Nat → Nat → Int64} {R : Nat → Nat → Option Nat} (F : WI L M a act (ent cy a C0 D0 R)) (I : Inv C0) (p0 : Int32) (p1 : Int32) (p2 : Int32)  : MI l G cy yX7_houses cX7_houses 7 (some .int) 2 0 0 [.ref (a 0), .int p0, .int p1, .int p2] L M (fun r L2 M2 => ∃ C2 D2, WI L2 M2 a act (ent cy a C2 D2 R) ∧ Inv C2 ∧ Kp [37, 38] C0 D0 C2 D2 ∧ True) := by
  refine MI.of (own := RX7) rfl (by decide) (Nat.le_of_ble_eq_true rfl) ?_
  intro p e s m below meth c A X hrt hnm
  obtain ⟨C, D, hC0, hD0, F, I, K⟩ : ∃ C D, C = C0 ∧ D = D0 ∧ WI L M a act (ent cy a C D R) ∧ Inv C ∧ Kp [37, 38] C0 D0 C D := ⟨C0, D0, rfl, rfl, F, I, Kp.rf⟩
  refine g_aload_n X dX7_houses_0 rfl (j := 0) rfl ?_
  refine i_get X F 0 rfl rfl fk_X7_19 dX7_houses_1 rfl ?_
  refine g_iload_n X dX7_houses_4 rfl (j := 1) rfl ?_
  refine g_callVI X (s_X2_hasPost l G F I p0 ) lk_X7_106 (F.1 3 rfl).2 (F.1 3 rfl).1 rfl rfl dX7_houses_5 (Nat.le_of_ble_eq_true rfl) ⟨by decide, by decide⟩ ⟨by decide, by decide⟩ (fun r1 L M hp => ?_)
  obtain ⟨C, D, F, I, K1, hr⟩ := hp
  have K := K.step K1 (by decide)
  rcases hr with rfl | ⟨rfl, n2, hn2a, hn2b, en2⟩
  · skip
    refine g_if_eq X dX7_houses_8 (tgt := 29) (by decide) (fun _ => ?_) (fun q => absurd (by decide) q)
    refine g_bipush X dX7_houses_29 (v := -2) (by decide) ?_
    exact g_iret X hrt dX7_houses_31 (by decide) (by decide) ⟨C, D, F, I, K, trivial⟩
  · skip
    subst en2
    refine g_if_eq X dX7_houses_8 (tgt := 29) (by decide) (fun q => absurd q (by decide)) (fun _ => ?_)
    refine g_iload_n X dX7_houses_11 rfl (j := 2) rfl ?_
    refine g_callSI X (s_X7_isFewInARow l G F I p1 ) lk_X7_246 rfl rfl dX7_houses_12 (Nat.le_of_ble_eq_true rfl) ⟨by decide, by decide⟩ ⟨by decide, by decide⟩ (fun r3 L M hp => ?_)
    obtain ⟨C, D, F, I, K1, hr⟩ := hp
    have K := K.step K1 (by decide)
    rcases hr with rfl | ⟨rfl, n4, hn4a, hn4b, en4⟩
    · skip
      refine g_if_eq X dX7_houses_15 (tgt := 29) (by decide) (fun _ => ?_) (fun q => absurd (by decide) q)
      refine g_bipush X dX7_houses_29 (v := -2) (by decide) ?_
      exact g_iret X hrt dX7_houses_31 (by decide) (by decide) ⟨C, D, F, I, K, trivial⟩
    · skip
      subst en4
      refine g_if_eq X dX7_houses_15 (tgt := 29) (by decide) (fun q => absurd q (by decide)) (fun _ => ?_)
      refine g_aload_n X dX7_houses_18 rfl (j := 0) rfl ?_
      refine i_get X F 0 rfl rfl fk_X7_19 dX7_houses_19 rfl ?_
      refine g_iload_n X dX7_houses_22 rfl (j := 3) rfl ?_
      refine g_callVI X (s_X2_hasInn l G F I p2 ) lk_X7_99 (F.1 3 rfl).2 (F.1 3 rfl).1 rfl rfl dX7_houses_23 (Nat.le_of_ble_eq_true rfl) ⟨by decide, by decide⟩ ⟨by decide, by decide⟩ (fun r5 L M hp => ?_)
      obtain ⟨C, D, F, I, K1, hr⟩ := hp
      have K := K.step K1 (by decide)
      rcases hr with rfl | ⟨rfl, n6, hn6a, hn6b, en6⟩
      · skip
        refine g_if_ne X dX7_houses_26 (tgt := 32) (by decide) (fun q => absurd (by decide) q) (fun _ => ?_)
        refine g_bipush X dX7_houses_29 (v := -2) (by decide) ?_
        exact g_iret X hrt dX7_houses_31 (by decide) (by decide) ⟨C, D, F, I, K, trivial⟩
      · skip
        subst en6
        refine g_if_ne X dX7_houses_26 (tgt := 32) (by decide) (fun _ => ?_) (fun q => absurd q (by decide))
        refine g_aload_n X dX7_houses_32 rfl (j := 0) rfl ?_
        refine i_get X F 0 rfl rfl fk_X7_51 dX7_houses_33 rfl ?_
        refine g_callVV X (s_X3_begin l G F I  ) lk_X7_234 (F.1 37 rfl).2 (F.1 37 rfl).1 rfl rfl dX7_houses_36 (Nat.le_of_ble_eq_true rfl) ⟨by decide, by decide⟩ ⟨by decide, by decide⟩ (fun L M hp => ?_)
        obtain ⟨C, D, F, I, K1, hr⟩ := hp
        have K := K.step K1 (by decide)
        refine g_iconst X dX7_houses_39 (v := 0) (by decide) ?_
        refine g_istore X dX7_houses_40 (by decide) (lv2 := [(4, .int 0), (0, .ref (a 0)), (1, .int (nI n2)), (2, .int (nI n4)), (3, .int (nI n6))]) rfl ?_
        refine g_iconst X dX7_houses_42 (v := 0) (by decide) ?_
        refine g_istore X dX7_houses_43 (by decide) (lv2 := [(5, .int 0), (4, .int 0), (0, .ref (a 0)), (1, .int (nI n2)), (2, .int (nI n4)), (3, .int (nI n6))]) rfl ?_
        refine g_lv [0, 1, 2, 3, 4, 5] (lv2 := [(5, .int 0), (4, .int 0), (0, .ref (a 0)), (1, .int (nI n2)), (2, .int (nI n4)), (3, .int (nI n6))]) rfl ?_
        refine i_loop (mods := [37, 38]) (fun x : Nat × Int32 => 20 - x.1) (fun x => [(5, .int (nI (x.1))), (4, .int (x.2)), (0, .ref (a 0)), (1, .int (nI n2)), (2, .int (nI n4)), (3, .int (nI n6))]) (fun x C => 0 ≤ x.1 ∧ x.1 ≤ 20) (fun x L M C D F I K hP ih45 => ?_) ((0, 0) : Nat × Int32) F I K ⟨by show _ ≤ _; omega, by show _ ≤ _; omega⟩
        rcases x with ⟨i45_5, v45_4⟩
        obtain ⟨hi45_5a, hi45_5b⟩ := hP
        refine g_lv [0, 1, 2, 3, 4, 5] (lv2 := [(5, .int (nI i45_5)), (4, .int v45_4), (0, .ref (a 0)), (1, .int (nI n2)), (2, .int (nI n4)), (3, .int (nI n6))]) rfl ?_
        refine g_iload X dX7_houses_45 (j := 0) rfl ?_
        refine g_iload_n X dX7_houses_47 rfl (j := 4) rfl ?_
        refine g_icmp_ge X dX7_houses_48 (tgt := 84) (by decide) (fun q7 => ?_) (fun q7 => ?_)
        · skip
          have q7 : n4 ≤ i45_5 := (nI_leI (a := n4) (b := i45_5) (by omega) (by omega)).mp q7
          refine g_iload X dX7_houses_84 (j := 1) rfl ?_
          exact g_iret X hrt dX7_houses_86 (by decide) (by decide) ⟨C, D, F, I, K, trivial⟩
        · skip
          have q7 : ¬ n4 ≤ i45_5 := fun z => q7 ((nI_leI (a := n4) (b := i45_5) (by omega) (by omega)).mpr z)
          refine g_aload_n X dX7_houses_51 rfl (j := 2) rfl ?_
          refine i_get X F 0 rfl rfl fk_X7_51 dX7_houses_52 rfl ?_
          refine g_iload_n X dX7_houses_55 rfl (j := 3) rfl ?_
          refine g_callVI X (s_X3_sendFrom l G F I n2 (by omega) (by omega) ) lk_X7_237 (F.1 37 rfl).2 (F.1 37 rfl).1 rfl rfl dX7_houses_56 (Nat.le_of_ble_eq_true rfl) ⟨by decide, by decide⟩ ⟨by decide, by decide⟩ (fun r8 L M hp => ?_)
          obtain ⟨C, D, F, I, K1, hr⟩ := hp
          have K := K.step K1 (by decide)
          refine g_istore X dX7_houses_59 (by decide) (lv2 := [(6, .int r8), (5, .int (nI i45_5)), (4, .int v45_4), (0, .ref (a 0)), (1, .int (nI n2)), (2, .int (nI n4)), (3, .int (nI n6))]) rfl ?_
          refine g_iload X dX7_houses_61 (j := 0) rfl ?_
          refine g_iconst X dX7_houses_63 (v := -1) (by decide) ?_
          refine g_icmp_ne X dX7_houses_64 (tgt := 69) (by decide) (fun q9 => ?_) (fun q9 => ?_)
          · skip
            refine g_iload X dX7_houses_69 (j := 0) rfl ?_
            refine g_iload_n X dX7_houses_71 rfl (j := 6) rfl ?_
            refine g_icmp_ne X dX7_houses_72 (tgt := 78) (by decide) (fun q10 => ?_) (fun q10 => ?_)
            · skip
              refine g_iinc X dX7_houses_78 (j := 1) rfl (v := nI (i45_5 + 1)) (nI_1 i45_5) (by decide) (lv2 := [(5, .int (nI (i45_5 + 1))), (6, .int r8), (4, .int v45_4), (0, .ref (a 0)), (1, .int (nI n2)), (2, .int (nI n4)), (3, .int (nI n6))]) rfl ?_
              refine g_goto X dX7_houses_81 (tgt := 45) (by decide) ?_
              refine g_lv [0, 2, 3, 4, 5, 6] (lv2 := [(5, .int (nI (i45_5 + 1))), (4, .int v45_4), (0, .ref (a 0)), (1, .int (nI n2)), (2, .int (nI n4)), (3, .int (nI n6))]) rfl ?_
              exact ih45 ((i45_5 + 1), v45_4) L M C D F I K ⟨by omega, by omega⟩ (by show _ < _; omega)
            · skip
              refine g_iinc X dX7_houses_75 (j := 2) rfl (v := (v45_4 + 1)) rfl (by decide) (lv2 := [(4, .int ((v45_4 + 1))), (6, .int r8), (5, .int (nI i45_5)), (0, .ref (a 0)), (1, .int (nI n2)), (2, .int (nI n4)), (3, .int (nI n6))]) rfl ?_
              refine g_iinc X dX7_houses_78 (j := 2) rfl (v := nI (i45_5 + 1)) (nI_1 i45_5) (by decide) (lv2 := [(5, .int (nI (i45_5 + 1))), (4, .int ((v45_4 + 1))), (6, .int r8), (0, .ref (a 0)), (1, .int (nI n2)), (2, .int (nI n4)), (3, .int (nI n6))]) rfl ?_
              refine g_goto X dX7_houses_81 (tgt := 45) (by decide) ?_
              refine g_lv [0, 1, 3, 4, 5, 6] (lv2 := [(5, .int (nI (i45_5 + 1))), (4, .int ((v45_4 + 1))), (0, .ref (a 0)), (1, .int (nI n2)), (2, .int (nI n4)), (3, .int (nI n6))]) rfl ?_
              exact ih45 ((i45_5 + 1), (v45_4 + 1)) L M C D F I K ⟨by omega, by omega⟩ (by show _ < _; omega)
          · skip
            subst q9
            refine g_iconst X dX7_houses_67 (v := -1) (by decide) ?_
            exact g_iret X hrt dX7_houses_68 (by decide) (by decide) ⟨C, D, F, I, K, trivial⟩
set_option maxHeartbeats 4000000 in
set_option maxRecDepth 100000 in
theorem s_X7_trees (l : Launch) (G : va_G) {cy : Nat → ClassId} {L : List Nat} {M : Nat → va_E} {a : Nat → Nat} {act : Nat → Bool} {C0 : Nat → Nat → Int32} {D0 : Nat → Nat → Int64} {R : Nat → Nat → Option Nat} (F : WI L M a act (ent cy a C0 D0 R)) (I : Inv C0)   : MI l G cy yX7_trees cX7_trees 4 (some .int) 3 0 0 [.ref (a 0)] L M (fun r L2 M2 => ∃ C2 D2, WI L2 M2 a act (ent cy a C2 D2 R) ∧ Inv C2 ∧ Kp [37, 38] C0 D0 C2 D2 ∧ True) := by
  refine MI.of (own := RX7) rfl (by decide) (Nat.le_of_ble_eq_true rfl) ?_
  intro p e s m below meth c A X hrt hnm
  obtain ⟨C, D, hC0, hD0, F, I, K⟩ : ∃ C D, C = C0 ∧ D = D0 ∧ WI L M a act (ent cy a C D R) ∧ Inv C ∧ Kp [37, 38] C0 D0 C D := ⟨C0, D0, rfl, rfl, F, I, Kp.rf⟩
  refine g_aload_n X dX7_trees_0 rfl (j := 0) rfl ?_
  refine i_get X F 0 rfl rfl fk_X7_19 dX7_trees_1 rfl ?_
  refine g_callVI X (s_X2_isTold l G F I  ) lk_X7_198 (F.1 3 rfl).2 (F.1 3 rfl).1 rfl rfl dX7_trees_4 (Nat.le_of_ble_eq_true rfl) ⟨by decide, by decide⟩ ⟨by decide, by decide⟩ (fun r1 L M hp => ?_)
  obtain ⟨C, D, F, I, K1, hr⟩ := hp
  have K := K.step K1 (by decide)
  rcases hr with rfl | rfl
  · skip
    refine g_if_ne X dX7_trees_7 (tgt := 13) (by decide) (fun q => absurd (by decide) q) (fun _ => ?_)
    refine g_bipush X dX7_trees_10 (v := -2) (by decide) ?_
    exact g_iret X hrt dX7_trees_12 (by decide) (by decide) ⟨C, D, F, I, K, trivial⟩
  · skip
    refine g_if_ne X dX7_trees_7 (tgt := 13) (by decide) (fun _ => ?_) (fun q => absurd q (by decide))
    refine g_aload_n X dX7_trees_13 rfl (j := 0) rfl ?_
    refine i_get X F 0 rfl rfl fk_X7_19 dX7_trees_14 rfl ?_
    refine g_callVI X (s_X2_allSettings l G F I  ) lk_X7_231 (F.1 3 rfl).2 (F.1 3 rfl).1 rfl rfl dX7_trees_17 (Nat.le_of_ble_eq_true rfl) ⟨by decide, by decide⟩ ⟨by decide, by decide⟩ (fun r2 L M hp => ?_)
    obtain ⟨C, D, F, I, K1, hr⟩ := hp
    have K := K.step K1 (by decide)
    refine g_istore_n X dX7_trees_20 rfl (by decide) (lv2 := [(1, .int r2), (0, .ref (a 0))]) rfl ?_
    refine g_iload_n X dX7_trees_21 rfl (j := 0) rfl ?_
    refine g_sipush X dX7_trees_22 (v := 4096) (by decide) ?_
    refine g_icmp_le X dX7_trees_25 (tgt := 31) (by decide) (fun q3 => ?_) (fun q3 => ?_)
    · skip
      have q3t : r2.toInt ≤ (4096 : Int32).toInt := Int32.le_iff_toInt_le.mp q3
      have q3k : (4096 : Int32).toInt = 4096 := (by decide)
      have q3b := Int32.toInt_lt r2
      refine g_iconst X dX7_trees_31 (v := 0) (by decide) ?_
      refine g_istore_n X dX7_trees_32 rfl (by decide) (lv2 := [(2, .int 0), (1, .int r2), (0, .ref (a 0))]) rfl ?_
      refine g_iconst X dX7_trees_33 (v := 0) (by decide) ?_
      refine g_istore_n X dX7_trees_34 rfl (by decide) (lv2 := [(3, .int 0), (2, .int 0), (1, .int r2), (0, .ref (a 0))]) rfl ?_
      refine g_lv [0, 1, 2, 3] (lv2 := [(3, .int 0), (2, .int 0), (1, .int r2), (0, .ref (a 0))]) rfl ?_
      refine i_loop (mods := [37, 38]) (fun x : Nat × Int32 => 4096 - x.1) (fun x => [(3, .int (nI (x.1))), (2, .int (x.2)), (1, .int r2), (0, .ref (a 0))]) (fun x C => 0 ≤ x.1 ∧ x.1 ≤ 4096) (fun x L M C D F I K hP ih35 => ?_) ((0, 0) : Nat × Int32) F I K ⟨by show _ ≤ _; omega, by show _ ≤ _; omega⟩
      rcases x with ⟨i35_3, v35_2⟩
      obtain ⟨hi35_3a, hi35_3b⟩ := hP
      refine g_lv [0, 1, 2, 3] (lv2 := [(3, .int (nI i35_3)), (2, .int v35_2), (1, .int r2), (0, .ref (a 0))]) rfl ?_
      refine g_iload_n X dX7_trees_35 rfl (j := 0) rfl ?_
      refine g_iload_n X dX7_trees_36 rfl (j := 2) rfl ?_
      refine g_icmp_ge X dX7_trees_37 (tgt := 75) (by decide) (fun q4 => ?_) (fun q4 => ?_)
      · skip
        have q4t : r2.toInt ≤ (nI i35_3).toInt := Int32.le_iff_toInt_le.mp q4
        rw [nI_toInt (by omega)] at q4t
        have q4b := Int32.toInt_lt r2
        refine g_iload_n X dX7_trees_75 rfl (j := 1) rfl ?_
        exact g_iret X hrt dX7_trees_76 (by decide) (by decide) ⟨C, D, F, I, K, trivial⟩
      · skip
        have q4t : ¬ r2.toInt ≤ (nI i35_3).toInt := fun z => q4 (Int32.le_iff_toInt_le.mpr z)
        rw [nI_toInt (by omega)] at q4t
        have q4b := Int32.toInt_lt r2
        refine g_aload_n X dX7_trees_40 rfl (j := 3) rfl ?_
        refine i_get X F 0 rfl rfl fk_X7_51 dX7_trees_41 rfl ?_
        refine g_iload_n X dX7_trees_44 rfl (j := 0) rfl ?_
        refine g_callVV X (s_X3_setArms l G F I i35_3 (by omega) (by omega) ) lk_X7_260 (F.1 37 rfl).2 (F.1 37 rfl).1 rfl rfl dX7_trees_45 (Nat.le_of_ble_eq_true rfl) ⟨by decide, by decide⟩ ⟨by decide, by decide⟩ (fun L M hp => ?_)
        obtain ⟨C, D, F, I, K1, hr⟩ := hp
        have K := K.step K1 (by decide)
        refine g_aload_n X dX7_trees_48 rfl (j := 3) rfl ?_
        refine i_get X F 0 rfl rfl fk_X7_19 dX7_trees_49 rfl ?_
        refine g_aload_n X dX7_trees_52 rfl (j := 3) rfl ?_
        refine i_get X F 0 rfl rfl fk_X7_51 dX7_trees_53 rfl ?_
        refine i_get X F 37 rfl rfl fk_X7_263 dX7_trees_56 rfl ?_
        refine g_iconst X dX7_trees_59 (v := 0) (by decide) ?_
        refine g_callVI X (s_X2_isTree_38 l G F I  ) lk_X7_252 (F.1 3 rfl).2 (F.1 3 rfl).1 rfl rfl dX7_trees_60 (Nat.le_of_ble_eq_true rfl) ⟨by decide, by decide⟩ ⟨by decide, by decide⟩ (fun r5 L M hp => ?_)
        obtain ⟨C, D, F, I, K1, hr⟩ := hp
        have K := K.step K1 (by decide)
        rcases hr with rfl | rfl
        · skip
          refine g_if_eq X dX7_trees_63 (tgt := 69) (by decide) (fun _ => ?_) (fun q => absurd (by decide) q)
          refine g_iinc X dX7_trees_69 (j := 0) rfl (v := nI (i35_3 + 1)) (nI_1 i35_3) (by decide) (lv2 := [(3, .int (nI (i35_3 + 1))), (2, .int v35_2), (1, .int r2), (0, .ref (a 0))]) rfl ?_
          refine g_goto X dX7_trees_72 (tgt := 35) (by decide) ?_
          refine g_lv [0, 1, 2, 3] (lv2 := [(3, .int (nI (i35_3 + 1))), (2, .int v35_2), (1, .int r2), (0, .ref (a 0))]) rfl ?_
          exact ih35 ((i35_3 + 1), v35_2) L M C D F I K ⟨by omega, by omega⟩ (by show _ < _; omega)
        · skip
          refine g_if_eq X dX7_trees_63 (tgt := 69) (by decide) (fun q => absurd q (by decide)) (fun _ => ?_)
          refine g_iinc X dX7_trees_66 (j := 1) rfl (v := (v35_2 + 1)) rfl (by decide) (lv2 := [(2, .int ((v35_2 + 1))), (3, .int (nI i35_3)), (1, .int r2), (0, .ref (a 0))]) rfl ?_
          refine g_iinc X dX7_trees_69 (j := 1) rfl (v := nI (i35_3 + 1)) (nI_1 i35_3) (by decide) (lv2 := [(3, .int (nI (i35_3 + 1))), (2, .int ((v35_2 + 1))), (1, .int r2), (0, .ref (a 0))]) rfl ?_
          refine g_goto X dX7_trees_72 (tgt := 35) (by decide) ?_
          refine g_lv [0, 1, 2, 3] (lv2 := [(3, .int (nI (i35_3 + 1))), (2, .int ((v35_2 + 1))), (1, .int r2), (0, .ref (a 0))]) rfl ?_
          exact ih35 ((i35_3 + 1), (v35_2 + 1)) L M C D F I K ⟨by omega, by omega⟩ (by show _ < _; omega)
    · skip
      have q3t : ¬ r2.toInt ≤ (4096 : Int32).toInt := fun z => q3 (Int32.le_iff_toInt_le.mpr z)
      have q3k : (4096 : Int32).toInt = 4096 := (by decide)
      have q3b := Int32.toInt_lt r2
      obtain ⟨n6, hn6, rfl⟩ := nI_of (x := r2) (fun z => by have z2 := Int32.lt_iff_toInt_lt.mp z; have z3 : (0 : Int32).toInt = 0 := (by decide); omega)
      rw [nI_toInt (by omega)] at q3t
      have tn6 := nI_toInt (n := n6) (by omega)
      refine g_bipush X dX7_trees_28 (v := -3) (by decide) ?_
      exact g_iret X hrt dX7_trees_30 (by decide) (by decide) ⟨C, D, F, I, K, trivial⟩
set_option maxHeartbeats 4000000 in
set_option maxRecDepth 100000 in
theorem s_X7_areTwo (l : Launch) (G : va_G) {cy : Nat → ClassId} {L : List Nat} {M : Nat → va_E} {a : Nat → Nat} {act : Nat → Bool} {C0 : Nat → Nat → Int32} {D0 : Nat → Nat → Int64} {R : Nat → Nat → Option Nat} (F : WI L M a act (ent cy a C0 D0 R)) (I : Inv C0) (p0 : Int32) (p1 : Int32)  : MI l G cy yX7_areTwo cX7_areTwo 3 (some .boolean) 1 0 0 [.ref (a 0), .int p0, .int p1] L M (fun r L2 M2 => ∃ C2 D2, WI L2 M2 a act (ent cy a C2 D2 R) ∧ Inv C2 ∧ Kp [] C0 D0 C2 D2 ∧ (r = 0 ∨ (r = 1 ∧ (∃ n : Nat, n ≤ 7 ∧ p0 = nI n) ∧ ∃ n : Nat, n ≤ 7 ∧ p1 = nI n))) := by
  refine MI.of (own := RX7) rfl (by decide) (Nat.le_of_ble_eq_true rfl) ?_
  intro p e s m below meth c A X hrt hnm
  obtain ⟨C, D, hC0, hD0, F, I, K⟩ : ∃ C D, C = C0 ∧ D = D0 ∧ WI L M a act (ent cy a C D R) ∧ Inv C ∧ Kp [] C0 D0 C D := ⟨C0, D0, rfl, rfl, F, I, Kp.rf⟩
  refine g_aload_n X dX7_areTwo_0 rfl (j := 0) rfl ?_
  refine i_get X F 0 rfl rfl fk_X7_19 dX7_areTwo_1 rfl ?_
  refine g_iload_n X dX7_areTwo_4 rfl (j := 1) rfl ?_
  refine g_callVI X (s_X2_hasWalker l G F I p0 ) lk_X7_122 (F.1 3 rfl).2 (F.1 3 rfl).1 rfl rfl dX7_areTwo_5 (Nat.le_of_ble_eq_true rfl) ⟨by decide, by decide⟩ ⟨by decide, by decide⟩ (fun r1 L M hp => ?_)
  obtain ⟨C, D, F, I, K1, hr⟩ := hp
  have K := K.step K1 (by decide)
  rcases hr with rfl | ⟨rfl, n2, hn2a, hn2b, en2⟩
  · skip
    refine g_if_eq X dX7_areTwo_8 (tgt := 31) (by decide) (fun _ => ?_) (fun q => absurd (by decide) q)
    refine g_iconst X dX7_areTwo_31 (v := 0) (by decide) ?_
    exact g_zret X hrt rfl dX7_areTwo_32 (by decide) (by decide) ⟨C, D, F, I, K, Or.inl rfl⟩
  · skip
    subst en2
    refine g_if_eq X dX7_areTwo_8 (tgt := 31) (by decide) (fun q => absurd q (by decide)) (fun _ => ?_)
    refine g_aload_n X dX7_areTwo_11 rfl (j := 0) rfl ?_
    refine i_get X F 0 rfl rfl fk_X7_19 dX7_areTwo_12 rfl ?_
    refine g_iload_n X dX7_areTwo_15 rfl (j := 2) rfl ?_
    refine g_callVI X (s_X2_hasWalker l G F I p1 ) lk_X7_122 (F.1 3 rfl).2 (F.1 3 rfl).1 rfl rfl dX7_areTwo_16 (Nat.le_of_ble_eq_true rfl) ⟨by decide, by decide⟩ ⟨by decide, by decide⟩ (fun r3 L M hp => ?_)
    obtain ⟨C, D, F, I, K1, hr⟩ := hp
    have K := K.step K1 (by decide)
    rcases hr with rfl | ⟨rfl, n4, hn4a, hn4b, en4⟩
    · skip
      refine g_if_eq X dX7_areTwo_19 (tgt := 31) (by decide) (fun _ => ?_) (fun q => absurd (by decide) q)
      refine g_iconst X dX7_areTwo_31 (v := 0) (by decide) ?_
      exact g_zret X hrt rfl dX7_areTwo_32 (by decide) (by decide) ⟨C, D, F, I, K, Or.inl rfl⟩
    · skip
      subst en4
      refine g_if_eq X dX7_areTwo_19 (tgt := 31) (by decide) (fun q => absurd q (by decide)) (fun _ => ?_)
      refine g_iload_n X dX7_areTwo_22 rfl (j := 1) rfl ?_
      refine g_iload_n X dX7_areTwo_23 rfl (j := 2) rfl ?_
      refine g_icmp_eq X dX7_areTwo_24 (tgt := 31) (by decide) (fun q5 => ?_) (fun q5 => ?_)
      · skip
        have q5 : n2 = n4 := (nI_eq (a := n2) (b := n4) (by omega) (by omega)).mp q5
        refine g_iconst X dX7_areTwo_31 (v := 0) (by decide) ?_
        exact g_zret X hrt rfl dX7_areTwo_32 (by decide) (by decide) ⟨C, D, F, I, K, Or.inl rfl⟩
      · skip
        have q5 : ¬ n2 = n4 := fun z => q5 ((nI_eq (a := n2) (b := n4) (by omega) (by omega)).mpr z)
        refine g_iconst X dX7_areTwo_27 (v := 1) (by decide) ?_
        refine g_goto X dX7_areTwo_28 (tgt := 32) (by decide) ?_
        exact g_zret X hrt rfl dX7_areTwo_32 (by decide) (by decide) ⟨C, D, F, I, K, Or.inr ⟨rfl, ⟨n2, by omega, rfl⟩, ⟨n4, by omega, rfl⟩⟩⟩
set_option maxHeartbeats 4000000 in
set_option maxRecDepth 100000 in
theorem s_X7_meet (l : Launch) (G : va_G) {cy : Nat → ClassId} {L : List Nat} {M : Nat → va_E} {a : Nat → Nat} {act : Nat → Bool} {C0 : Nat → Nat → Int32} {D0 : Nat → Nat → Int64} {R : Nat → Nat → Option Nat} (F : WI L M a act (ent cy a C0 D0 R)) (I : Inv C0) (p0 : Int32) (p1 : Int32)  : MI l G cy yX7_meet cX7_meet 3 (some .int) 2 0 0 [.ref (a 0), .int p0, .int p1] L M (fun r L2 M2 => ∃ C2 D2, WI L2 M2 a act (ent cy a C2 D2 R) ∧ Inv C2 ∧ Kp [] C0 D0 C2 D2 ∧ True) := by
  refine MI.of (own := RX7) rfl (by decide) (Nat.le_of_ble_eq_true rfl) ?_
  intro p e s m below meth c A X hrt hnm
  obtain ⟨C, D, hC0, hD0, F, I, K⟩ : ∃ C D, C = C0 ∧ D = D0 ∧ WI L M a act (ent cy a C D R) ∧ Inv C ∧ Kp [] C0 D0 C D := ⟨C0, D0, rfl, rfl, F, I, Kp.rf⟩
  refine g_aload_n X dX7_meet_0 rfl (j := 0) rfl ?_
  refine g_iload_n X dX7_meet_1 rfl (j := 1) rfl ?_
  refine g_iload_n X dX7_meet_2 rfl (j := 2) rfl ?_
  refine g_callVI X (s_X7_areTwo l G F I p0 p1 ) lk_X7_212 (F.1 0 rfl).2 (F.1 0 rfl).1 rfl rfl dX7_meet_3 (Nat.le_of_ble_eq_true rfl) ⟨by decide, by decide⟩ ⟨by decide, by decide⟩ (fun r1 L M hp => ?_)
  obtain ⟨C, D, F, I, K1, hr⟩ := hp
  have K := K.step K1 (by decide)
  rcases hr with rfl | ⟨rfl, ⟨n2, hn2, en2⟩, ⟨n3, hn3, en3⟩⟩
  · skip
    refine g_if_eq X dX7_meet_6 (tgt := 21) (by decide) (fun _ => ?_) (fun q => absurd (by decide) q)
    refine g_bipush X dX7_meet_21 (v := -2) (by decide) ?_
    exact g_iret X hrt dX7_meet_23 (by decide) (by decide) ⟨C, D, F, I, K, trivial⟩
  · skip
    subst en2
    subst en3
    refine g_if_eq X dX7_meet_6 (tgt := 21) (by decide) (fun q => absurd q (by decide)) (fun _ => ?_)
    refine g_aload_n X dX7_meet_9 rfl (j := 0) rfl ?_
    refine i_get X F 0 rfl rfl fk_X7_41 dX7_meet_10 rfl ?_
    refine g_iload_n X dX7_meet_13 rfl (j := 1) rfl ?_
    refine g_iload_n X dX7_meet_14 rfl (j := 2) rfl ?_
    refine g_callVI X (s_X4_firstHourTogether_25 l G F I n2 (by omega) (by omega) n3 (by omega) (by omega) ) lk_X7_216 (F.1 25 rfl).2 (F.1 25 rfl).1 rfl rfl dX7_meet_15 (Nat.le_of_ble_eq_true rfl) ⟨by decide, by decide⟩ ⟨by decide, by decide⟩ (fun r4 L M hp => ?_)
    obtain ⟨C, D, F, I, K1, hr⟩ := hp
    have K := K.step K1 (by decide)
    refine g_goto X dX7_meet_18 (tgt := 23) (by decide) ?_
    exact g_iret X hrt dX7_meet_23 (by decide) (by decide) ⟨C, D, F, I, K, trivial⟩
set_option maxHeartbeats 4000000 in
set_option maxRecDepth 100000 in
theorem s_X7_rests (l : Launch) (G : va_G) {cy : Nat → ClassId} {L : List Nat} {M : Nat → va_E} {a : Nat → Nat} {act : Nat → Bool} {C0 : Nat → Nat → Int32} {D0 : Nat → Nat → Int64} {R : Nat → Nat → Option Nat} (F : WI L M a act (ent cy a C0 D0 R)) (I : Inv C0) (p0 : Int32) (p1 : Int32)  : MI l G cy yX7_rests cX7_rests 9 (some .int) 5 0 0 [.ref (a 0), .int p0, .int p1] L M (fun r L2 M2 => ∃ C2 D2, WI L2 M2 a act (ent cy a C2 D2 R) ∧ Inv C2 ∧ Kp [31, 32, 33, 34, 35, 36] C0 D0 C2 D2 ∧ True) := by
  refine MI.of (own := RX7) rfl (by decide) (Nat.le_of_ble_eq_true rfl) ?_
  intro p e s m below meth c A X hrt hnm
  obtain ⟨C, D, hC0, hD0, F, I, K⟩ : ∃ C D, C = C0 ∧ D = D0 ∧ WI L M a act (ent cy a C D R) ∧ Inv C ∧ Kp [31, 32, 33, 34, 35, 36] C0 D0 C D := ⟨C0, D0, rfl, rfl, F, I, Kp.rf⟩
  refine g_aload_n X dX7_rests_0 rfl (j := 0) rfl ?_
  refine g_iload_n X dX7_rests_1 rfl (j := 1) rfl ?_
  refine g_iload_n X dX7_rests_2 rfl (j := 2) rfl ?_
  refine g_callVI X (s_X7_areTwo l G F I p0 p1 ) lk_X7_212 (F.1 0 rfl).2 (F.1 0 rfl).1 rfl rfl dX7_rests_3 (Nat.le_of_ble_eq_true rfl) ⟨by decide, by decide⟩ ⟨by decide, by decide⟩ (fun r1 L M hp => ?_)
  obtain ⟨C, D, F, I, K1, hr⟩ := hp
  have K := K.step K1 (by decide)
  rcases hr with rfl | ⟨rfl, ⟨n2, hn2, en2⟩, ⟨n3, hn3, en3⟩⟩
  · skip
    refine g_if_ne X dX7_rests_6 (tgt := 12) (by decide) (fun q => absurd (by decide) q) (fun _ => ?_)
    refine g_bipush X dX7_rests_9 (v := -2) (by decide) ?_
    exact g_iret X hrt dX7_rests_11 (by decide) (by decide) ⟨C, D, F, I, K, trivial⟩
  · skip
    subst en2
    subst en3
    refine g_if_ne X dX7_rests_6 (tgt := 12) (by decide) (fun _ => ?_) (fun q => absurd q (by decide))
    refine g_iconst X dX7_rests_12 (v := 0) (by decide) ?_
    refine g_istore_n X dX7_rests_13 rfl (by decide) (lv2 := [(3, .int 0), (0, .ref (a 0)), (1, .int (nI n2)), (2, .int (nI n3))]) rfl ?_
    refine g_iconst X dX7_rests_14 (v := 0) (by decide) ?_
    refine g_istore X dX7_rests_15 (by decide) (lv2 := [(4, .int 0), (3, .int 0), (0, .ref (a 0)), (1, .int (nI n2)), (2, .int (nI n3))]) rfl ?_
    refine g_lv [0, 1, 2, 3, 4] (lv2 := [(4, .int 0), (3, .int 0), (0, .ref (a 0)), (1, .int (nI n2)), (2, .int (nI n3))]) rfl ?_
    refine i_loop (mods := [31, 32, 33, 34, 35, 36]) (fun x : Nat × Int32 => 4 - x.1) (fun x => [(4, .int (nI (x.1))), (3, .int (x.2)), (0, .ref (a 0)), (1, .int (nI n2)), (2, .int (nI n3))]) (fun x C => 0 ≤ x.1 ∧ x.1 ≤ 4) (fun x L M C D F I K hP ih17 => ?_) ((0, 0) : Nat × Int32) F I K ⟨by show _ ≤ _; omega, by show _ ≤ _; omega⟩
    rcases x with ⟨i17_4, v17_3⟩
    obtain ⟨hi17_4a, hi17_4b⟩ := hP
    refine g_lv [0, 1, 2, 3, 4] (lv2 := [(4, .int (nI i17_4)), (3, .int v17_3), (0, .ref (a 0)), (1, .int (nI n2)), (2, .int (nI n3))]) rfl ?_
    refine g_iload X dX7_rests_17 (j := 0) rfl ?_
    refine g_iconst X dX7_rests_19 (v := 4) (by decide) ?_
    refine g_icmp_ge X dX7_rests_20 (tgt := 122) (by decide) (fun q4 => ?_) (fun q4 => ?_)
    · skip
      have q4 : 4 ≤ i17_4 := (nI_leI (a := 4) (b := i17_4) (by omega) (by omega)).mp q4
      refine g_iload_n X dX7_rests_122 rfl (j := 1) rfl ?_
      exact g_iret X hrt dX7_rests_123 (by decide) (by decide) ⟨C, D, F, I, K, trivial⟩
    · skip
      have q4 : ¬ 4 ≤ i17_4 := fun z => q4 ((nI_leI (a := 4) (b := i17_4) (by omega) (by omega)).mpr z)
      refine g_iload X dX7_rests_23 (j := 0) rfl ?_
      refine g_iconst X dX7_rests_25 (v := 1) (by decide) ?_
      refine g_iand X dX7_rests_26 ?_
      refine Go.gen (fun o5 => ?_)
      refine g_istore X dX7_rests_27 (by decide) (lv2 := [(5, .int o5), (4, .int (nI i17_4)), (3, .int v17_3), (0, .ref (a 0)), (1, .int (nI n2)), (2, .int (nI n3))]) rfl ?_
      refine g_iload X dX7_rests_29 (j := 1) rfl ?_
      refine g_iconst X dX7_rests_31 (v := 1) (by decide) ?_
      refine g_ishr X dX7_rests_32 ?_
      refine Go.gen (fun o6 => ?_)
      refine g_istore X dX7_rests_33 (by decide) (lv2 := [(6, .int o6), (5, .int o5), (4, .int (nI i17_4)), (3, .int v17_3), (0, .ref (a 0)), (1, .int (nI n2)), (2, .int (nI n3))]) rfl ?_
      refine g_aload_n X dX7_rests_35 rfl (j := 4) rfl ?_
      refine g_iload_n X dX7_rests_36 rfl (j := 5) rfl ?_
      refine g_iload_n X dX7_rests_37 rfl (j := 6) rfl ?_
      refine g_iload X dX7_rests_38 (j := 1) rfl ?_
      refine g_iload X dX7_rests_40 (j := 0) rfl ?_
      refine g_callVI X (s_X7_gain l G F I n2 (by omega) (by omega) n3 (by omega) (by omega) o5 o6 ) lk_X7_323 (F.1 0 rfl).2 (F.1 0 rfl).1 rfl rfl dX7_rests_42 (Nat.le_of_ble_eq_true rfl) ⟨by decide, by decide⟩ ⟨by decide, by decide⟩ (fun r7 L M hp => ?_)
      obtain ⟨C, D, F, I, K1, hr⟩ := hp
      have K := K.step K1 (by decide)
      refine g_aload_n X dX7_rests_45 rfl (j := 4) rfl ?_
      refine g_iload_n X dX7_rests_46 rfl (j := 5) rfl ?_
      refine g_iload_n X dX7_rests_47 rfl (j := 6) rfl ?_
      refine g_iconst X dX7_rests_48 (v := 1) (by decide) ?_
      refine g_iload X dX7_rests_49 (j := 1) rfl ?_
      refine g_isub X dX7_rests_51 ?_
      refine Go.gen (fun o8 => ?_)
      refine g_iload X dX7_rests_52 (j := 0) rfl ?_
      refine g_callVI X (s_X7_gain l G F I n2 (by omega) (by omega) n3 (by omega) (by omega) o8 o6 ) lk_X7_323 (F.1 0 rfl).2 (F.1 0 rfl).1 rfl rfl dX7_rests_54 (Nat.le_of_ble_eq_true rfl) ⟨by decide, by decide⟩ ⟨by decide, by decide⟩ (fun r9 L M hp => ?_)
      obtain ⟨C, D, F, I, K1, hr⟩ := hp
      have K := K.step K1 (by decide)
      refine g_icmp_lt X dX7_rests_57 (tgt := 64) (by decide) (fun q10 => ?_) (fun q10 => ?_)
      · skip
        refine g_iconst X dX7_rests_64 (v := 0) (by decide) ?_
        refine g_istore X dX7_rests_65 (by decide) (lv2 := [(7, .int 0), (6, .int o6), (5, .int o5), (4, .int (nI i17_4)), (3, .int v17_3), (0, .ref (a 0)), (1, .int (nI n2)), (2, .int (nI n3))]) rfl ?_
        refine g_aload_n X dX7_rests_67 rfl (j := 5) rfl ?_
        refine g_iload_n X dX7_rests_68 rfl (j := 7) rfl ?_
        refine g_iload_n X dX7_rests_69 rfl (j := 6) rfl ?_
        refine g_iload X dX7_rests_70 (j := 1) rfl ?_
        refine g_iload X dX7_rests_72 (j := 2) rfl ?_
        refine g_callVI X (s_X7_gain l G F I n3 (by omega) (by omega) n2 (by omega) (by omega) o6 o5 ) lk_X7_323 (F.1 0 rfl).2 (F.1 0 rfl).1 rfl rfl dX7_rests_74 (Nat.le_of_ble_eq_true rfl) ⟨by decide, by decide⟩ ⟨by decide, by decide⟩ (fun r11 L M hp => ?_)
        obtain ⟨C, D, F, I, K1, hr⟩ := hp
        have K := K.step K1 (by decide)
        refine g_aload_n X dX7_rests_77 rfl (j := 5) rfl ?_
        refine g_iload_n X dX7_rests_78 rfl (j := 7) rfl ?_
        refine g_iload_n X dX7_rests_79 rfl (j := 6) rfl ?_
        refine g_iconst X dX7_rests_80 (v := 1) (by decide) ?_
        refine g_iload X dX7_rests_81 (j := 1) rfl ?_
        refine g_isub X dX7_rests_83 ?_
        refine Go.gen (fun o12 => ?_)
        refine g_iload X dX7_rests_84 (j := 2) rfl ?_
        refine g_callVI X (s_X7_gain l G F I n3 (by omega) (by omega) n2 (by omega) (by omega) o12 o5 ) lk_X7_323 (F.1 0 rfl).2 (F.1 0 rfl).1 rfl rfl dX7_rests_86 (Nat.le_of_ble_eq_true rfl) ⟨by decide, by decide⟩ ⟨by decide, by decide⟩ (fun r13 L M hp => ?_)
        obtain ⟨C, D, F, I, K1, hr⟩ := hp
        have K := K.step K1 (by decide)
        refine g_icmp_lt X dX7_rests_89 (tgt := 96) (by decide) (fun q14 => ?_) (fun q14 => ?_)
        · skip
          refine g_iconst X dX7_rests_96 (v := 0) (by decide) ?_
          refine g_istore X dX7_rests_97 (by decide) (lv2 := [(8, .int 0), (7, .int 0), (6, .int o6), (5, .int o5), (4, .int (nI i17_4)), (3, .int v17_3), (0, .ref (a 0)), (1, .int (nI n2)), (2, .int (nI n3))]) rfl ?_
          refine g_iload X dX7_rests_99 (j := 1) rfl ?_
          refine g_if_eq X dX7_rests_101 (tgt := 116) (by decide) (fun _ => ?_) (fun q => absurd (by decide) q)
          refine g_iinc X dX7_rests_116 (j := 4) rfl (v := nI (i17_4 + 1)) (nI_1 i17_4) (by decide) (lv2 := [(4, .int (nI (i17_4 + 1))), (8, .int 0), (7, .int 0), (6, .int o6), (5, .int o5), (3, .int v17_3), (0, .ref (a 0)), (1, .int (nI n2)), (2, .int (nI n3))]) rfl ?_
          refine g_goto X dX7_rests_119 (tgt := 17) (by decide) ?_
          refine g_lv [0, 5, 6, 7, 8] (lv2 := [(4, .int (nI (i17_4 + 1))), (3, .int v17_3), (0, .ref (a 0)), (1, .int (nI n2)), (2, .int (nI n3))]) rfl ?_
          exact ih17 ((i17_4 + 1), v17_3) L M C D F I K ⟨by omega, by omega⟩ (by show _ < _; omega)
        · skip
          refine g_iconst X dX7_rests_92 (v := 1) (by decide) ?_
          refine g_goto X dX7_rests_93 (tgt := 97) (by decide) ?_
          refine g_istore X dX7_rests_97 (by decide) (lv2 := [(8, .int 1), (7, .int 0), (6, .int o6), (5, .int o5), (4, .int (nI i17_4)), (3, .int v17_3), (0, .ref (a 0)), (1, .int (nI n2)), (2, .int (nI n3))]) rfl ?_
          refine g_iload X dX7_rests_99 (j := 1) rfl ?_
          refine g_if_eq X dX7_rests_101 (tgt := 116) (by decide) (fun _ => ?_) (fun q => absurd (by decide) q)
          refine g_iinc X dX7_rests_116 (j := 4) rfl (v := nI (i17_4 + 1)) (nI_1 i17_4) (by decide) (lv2 := [(4, .int (nI (i17_4 + 1))), (8, .int 1), (7, .int 0), (6, .int o6), (5, .int o5), (3, .int v17_3), (0, .ref (a 0)), (1, .int (nI n2)), (2, .int (nI n3))]) rfl ?_
          refine g_goto X dX7_rests_119 (tgt := 17) (by decide) ?_
          refine g_lv [0, 5, 6, 7, 8] (lv2 := [(4, .int (nI (i17_4 + 1))), (3, .int v17_3), (0, .ref (a 0)), (1, .int (nI n2)), (2, .int (nI n3))]) rfl ?_
          exact ih17 ((i17_4 + 1), v17_3) L M C D F I K ⟨by omega, by omega⟩ (by show _ < _; omega)
      · skip
        refine g_iconst X dX7_rests_60 (v := 1) (by decide) ?_
        refine g_goto X dX7_rests_61 (tgt := 65) (by decide) ?_
        refine g_istore X dX7_rests_65 (by decide) (lv2 := [(7, .int 1), (6, .int o6), (5, .int o5), (4, .int (nI i17_4)), (3, .int v17_3), (0, .ref (a 0)), (1, .int (nI n2)), (2, .int (nI n3))]) rfl ?_
        refine g_aload_n X dX7_rests_67 rfl (j := 5) rfl ?_
        refine g_iload_n X dX7_rests_68 rfl (j := 7) rfl ?_
        refine g_iload_n X dX7_rests_69 rfl (j := 6) rfl ?_
        refine g_iload X dX7_rests_70 (j := 1) rfl ?_
        refine g_iload X dX7_rests_72 (j := 2) rfl ?_
        refine g_callVI X (s_X7_gain l G F I n3 (by omega) (by omega) n2 (by omega) (by omega) o6 o5 ) lk_X7_323 (F.1 0 rfl).2 (F.1 0 rfl).1 rfl rfl dX7_rests_74 (Nat.le_of_ble_eq_true rfl) ⟨by decide, by decide⟩ ⟨by decide, by decide⟩ (fun r15 L M hp => ?_)
        obtain ⟨C, D, F, I, K1, hr⟩ := hp
        have K := K.step K1 (by decide)
        refine g_aload_n X dX7_rests_77 rfl (j := 5) rfl ?_
        refine g_iload_n X dX7_rests_78 rfl (j := 7) rfl ?_
        refine g_iload_n X dX7_rests_79 rfl (j := 6) rfl ?_
        refine g_iconst X dX7_rests_80 (v := 1) (by decide) ?_
        refine g_iload X dX7_rests_81 (j := 1) rfl ?_
        refine g_isub X dX7_rests_83 ?_
        refine Go.gen (fun o16 => ?_)
        refine g_iload X dX7_rests_84 (j := 2) rfl ?_
        refine g_callVI X (s_X7_gain l G F I n3 (by omega) (by omega) n2 (by omega) (by omega) o16 o5 ) lk_X7_323 (F.1 0 rfl).2 (F.1 0 rfl).1 rfl rfl dX7_rests_86 (Nat.le_of_ble_eq_true rfl) ⟨by decide, by decide⟩ ⟨by decide, by decide⟩ (fun r17 L M hp => ?_)
        obtain ⟨C, D, F, I, K1, hr⟩ := hp
        have K := K.step K1 (by decide)
        refine g_icmp_lt X dX7_rests_89 (tgt := 96) (by decide) (fun q18 => ?_) (fun q18 => ?_)
        · skip
          refine g_iconst X dX7_rests_96 (v := 0) (by decide) ?_
          refine g_istore X dX7_rests_97 (by decide) (lv2 := [(8, .int 0), (7, .int 1), (6, .int o6), (5, .int o5), (4, .int (nI i17_4)), (3, .int v17_3), (0, .ref (a 0)), (1, .int (nI n2)), (2, .int (nI n3))]) rfl ?_
          refine g_iload X dX7_rests_99 (j := 1) rfl ?_
          refine g_if_eq X dX7_rests_101 (tgt := 116) (by decide) (fun q => absurd q (by decide)) (fun _ => ?_)
          refine g_iload X dX7_rests_104 (j := 0) rfl ?_
          refine g_if_eq X dX7_rests_106 (tgt := 116) (by decide) (fun _ => ?_) (fun q => absurd (by decide) q)
          refine g_iinc X dX7_rests_116 (j := 4) rfl (v := nI (i17_4 + 1)) (nI_1 i17_4) (by decide) (lv2 := [(4, .int (nI (i17_4 + 1))), (8, .int 0), (7, .int 1), (6, .int o6), (5, .int o5), (3, .int v17_3), (0, .ref (a 0)), (1, .int (nI n2)), (2, .int (nI n3))]) rfl ?_
          refine g_goto X dX7_rests_119 (tgt := 17) (by decide) ?_
          refine g_lv [0, 5, 6, 7, 8] (lv2 := [(4, .int (nI (i17_4 + 1))), (3, .int v17_3), (0, .ref (a 0)), (1, .int (nI n2)), (2, .int (nI n3))]) rfl ?_
          exact ih17 ((i17_4 + 1), v17_3) L M C D F I K ⟨by omega, by omega⟩ (by show _ < _; omega)
        · skip
          refine g_iconst X dX7_rests_92 (v := 1) (by decide) ?_
          refine g_goto X dX7_rests_93 (tgt := 97) (by decide) ?_
          refine g_istore X dX7_rests_97 (by decide) (lv2 := [(8, .int 1), (7, .int 1), (6, .int o6), (5, .int o5), (4, .int (nI i17_4)), (3, .int v17_3), (0, .ref (a 0)), (1, .int (nI n2)), (2, .int (nI n3))]) rfl ?_
          refine g_iload X dX7_rests_99 (j := 1) rfl ?_
          refine g_if_eq X dX7_rests_101 (tgt := 116) (by decide) (fun q => absurd q (by decide)) (fun _ => ?_)
          refine g_iload X dX7_rests_104 (j := 0) rfl ?_
          refine g_if_eq X dX7_rests_106 (tgt := 116) (by decide) (fun q => absurd q (by decide)) (fun _ => ?_)
          refine g_iload_n X dX7_rests_109 rfl (j := 5) rfl ?_
          refine g_iconst X dX7_rests_110 (v := 1) (by decide) ?_
          refine g_iload X dX7_rests_111 (j := 4) rfl ?_
          refine g_ishl X dX7_rests_113 ?_
          refine Go.gen (fun o19 => ?_)
          refine g_ior X dX7_rests_114 ?_
          refine Go.gen (fun o20 => ?_)
          refine g_istore_n X dX7_rests_115 rfl (by decide) (lv2 := [(3, .int o20), (8, .int 1), (7, .int 1), (6, .int o6), (5, .int o5), (4, .int (nI i17_4)), (0, .ref (a 0)), (1, .int (nI n2)), (2, .int (nI n3))]) rfl ?_
          refine g_iinc X dX7_rests_116 (j := 5) rfl (v := nI (i17_4 + 1)) (nI_1 i17_4) (by decide) (lv2 := [(4, .int (nI (i17_4 + 1))), (3, .int o20), (8, .int 1), (7, .int 1), (6, .int o6), (5, .int o5), (0, .ref (a 0)), (1, .int (nI n2)), (2, .int (nI n3))]) rfl ?_
          refine g_goto X dX7_rests_119 (tgt := 17) (by decide) ?_
          refine g_lv [0, 1, 6, 7, 8] (lv2 := [(4, .int (nI (i17_4 + 1))), (3, .int o20), (0, .ref (a 0)), (1, .int (nI n2)), (2, .int (nI n3))]) rfl ?_
          exact ih17 ((i17_4 + 1), o20) L M C D F I K ⟨by omega, by omega⟩ (by show _ < _; omega)
set_option maxHeartbeats 4000000 in
set_option maxRecDepth 100000 in
theorem s_X7_gets (l : Launch) (G : va_G) {cy : Nat → ClassId} {L : List Nat} {M : Nat → va_E} {a : Nat → Nat} {act : Nat → Bool} {C0 : Nat → Nat → Int32} {D0 : Nat → Nat → Int64} {R : Nat → Nat → Option Nat} (F : WI L M a act (ent cy a C0 D0 R)) (I : Inv C0) (p0 : Int32) (p1 : Int32) (p2 : Int32) (p3 : Int32)  : MI l G cy yX7_gets cX7_gets 5 (some .int) 5 0 0 [.ref (a 0), .int p0, .int p1, .int p2, .int p3] L M (fun r L2 M2 => ∃ C2 D2, WI L2 M2 a act (ent cy a C2 D2 R) ∧ Inv C2 ∧ Kp [31, 32, 33, 34, 35, 36] C0 D0 C2 D2 ∧ True) := by
  refine MI.of (own := RX7) rfl (by decide) (Nat.le_of_ble_eq_true rfl) ?_
  intro p e s m below meth c A X hrt hnm
  obtain ⟨C, D, hC0, hD0, F, I, K⟩ : ∃ C D, C = C0 ∧ D = D0 ∧ WI L M a act (ent cy a C D R) ∧ Inv C ∧ Kp [31, 32, 33, 34, 35, 36] C0 D0 C D := ⟨C0, D0, rfl, rfl, F, I, Kp.rf⟩
  refine g_aload_n X dX7_gets_0 rfl (j := 0) rfl ?_
  refine g_iload_n X dX7_gets_1 rfl (j := 1) rfl ?_
  refine g_iload_n X dX7_gets_2 rfl (j := 2) rfl ?_
  refine g_callVI X (s_X7_areTwo l G F I p0 p1 ) lk_X7_212 (F.1 0 rfl).2 (F.1 0 rfl).1 rfl rfl dX7_gets_3 (Nat.le_of_ble_eq_true rfl) ⟨by decide, by decide⟩ ⟨by decide, by decide⟩ (fun r1 L M hp => ?_)
  obtain ⟨C, D, F, I, K1, hr⟩ := hp
  have K := K.step K1 (by decide)
  rcases hr with rfl | ⟨rfl, ⟨n2, hn2, en2⟩, ⟨n3, hn3, en3⟩⟩
  · skip
    refine g_if_eq X dX7_gets_6 (tgt := 24) (by decide) (fun _ => ?_) (fun q => absurd (by decide) q)
    refine g_sipush X dX7_gets_24 (v := -1000) (by decide) ?_
    exact g_iret X hrt dX7_gets_27 (by decide) (by decide) ⟨C, D, F, I, K, trivial⟩
  · skip
    subst en2
    subst en3
    refine g_if_eq X dX7_gets_6 (tgt := 24) (by decide) (fun q => absurd q (by decide)) (fun _ => ?_)
    refine g_iload_n X dX7_gets_9 rfl (j := 3) rfl ?_
    refine g_callSI X (s_X7_isEither l G F I p2 ) lk_X7_125 rfl rfl dX7_gets_10 (Nat.le_of_ble_eq_true rfl) ⟨by decide, by decide⟩ ⟨by decide, by decide⟩ (fun r4 L M hp => ?_)
    obtain ⟨C, D, F, I, K1, hr⟩ := hp
    have K := K.step K1 (by decide)
    rcases hr with rfl | rfl
    · skip
      refine g_if_eq X dX7_gets_13 (tgt := 24) (by decide) (fun _ => ?_) (fun q => absurd (by decide) q)
      refine g_sipush X dX7_gets_24 (v := -1000) (by decide) ?_
      exact g_iret X hrt dX7_gets_27 (by decide) (by decide) ⟨C, D, F, I, K, trivial⟩
    · skip
      refine g_if_eq X dX7_gets_13 (tgt := 24) (by decide) (fun q => absurd q (by decide)) (fun _ => ?_)
      refine g_iload X dX7_gets_16 (j := 4) rfl ?_
      refine g_callSI X (s_X7_isEither l G F I p3 ) lk_X7_125 rfl rfl dX7_gets_18 (Nat.le_of_ble_eq_true rfl) ⟨by decide, by decide⟩ ⟨by decide, by decide⟩ (fun r5 L M hp => ?_)
      obtain ⟨C, D, F, I, K1, hr⟩ := hp
      have K := K.step K1 (by decide)
      rcases hr with rfl | rfl
      · skip
        refine g_if_ne X dX7_gets_21 (tgt := 28) (by decide) (fun q => absurd (by decide) q) (fun _ => ?_)
        refine g_sipush X dX7_gets_24 (v := -1000) (by decide) ?_
        exact g_iret X hrt dX7_gets_27 (by decide) (by decide) ⟨C, D, F, I, K, trivial⟩
      · skip
        refine g_if_ne X dX7_gets_21 (tgt := 28) (by decide) (fun _ => ?_) (fun q => absurd q (by decide))
        refine g_aload_n X dX7_gets_28 rfl (j := 0) rfl ?_
        refine g_iload_n X dX7_gets_29 rfl (j := 1) rfl ?_
        refine g_iload_n X dX7_gets_30 rfl (j := 2) rfl ?_
        refine g_iload_n X dX7_gets_31 rfl (j := 3) rfl ?_
        refine g_iload X dX7_gets_32 (j := 4) rfl ?_
        refine g_callVI X (s_X7_gain l G F I n2 (by omega) (by omega) n3 (by omega) (by omega) p2 p3 ) lk_X7_323 (F.1 0 rfl).2 (F.1 0 rfl).1 rfl rfl dX7_gets_34 (Nat.le_of_ble_eq_true rfl) ⟨by decide, by decide⟩ ⟨by decide, by decide⟩ (fun r6 L M hp => ?_)
        obtain ⟨C, D, F, I, K1, hr⟩ := hp
        have K := K.step K1 (by decide)
        exact g_iret X hrt dX7_gets_37 (by decide) (by decide) ⟨C, D, F, I, K, trivial⟩
set_option maxHeartbeats 4000000 in
set_option maxRecDepth 100000 in
theorem s_X7_greatestDivisor (l : Launch) (G : va_G) {cy : Nat → ClassId} {L : List Nat} {M : Nat → va_E} {a : Nat → Nat} {act : Nat → Bool} {C0 : Nat → Nat → Int32} {D0 : Nat → Nat → Int64} {R : Nat → Nat → Option Nat} (F : WI L M a act (ent cy a C0 D0 R)) (I : Inv C0) (p0 : Int64) (p1 : Int64)  : MJ l G cy yX7_greatestDivisor cX7_greatestDivisor 11 (some .long) 0 0 0 [.long p0, .long p1] L M (fun r L2 M2 => ∃ C2 D2, WI L2 M2 a act (ent cy a C2 D2 R) ∧ Inv C2 ∧ Kp [] C0 D0 C2 D2 ∧ True) := by
  refine MJ.of (own := RX7) rfl (by decide) (Nat.le_of_ble_eq_true rfl) ?_
  intro p e s m below meth c A X hrt hnm
  obtain ⟨C, D, hC0, hD0, F, I, K⟩ : ∃ C D, C = C0 ∧ D = D0 ∧ WI L M a act (ent cy a C D R) ∧ Inv C ∧ Kp [] C0 D0 C D := ⟨C0, D0, rfl, rfl, F, I, Kp.rf⟩
  refine g_lload_n X dX7_greatestDivisor_0 rfl (j := 0) rfl ?_
  refine g_lstore X dX7_greatestDivisor_1 (by decide) (lv2 := [(4, .long p0), (0, .long p0), (2, .long p1)]) rfl ?_
  refine g_lload_n X dX7_greatestDivisor_3 rfl (j := 2) rfl ?_
  refine g_lstore X dX7_greatestDivisor_4 (by decide) (lv2 := [(6, .long p1), (4, .long p0), (0, .long p0), (2, .long p1)]) rfl ?_
  refine g_iconst X dX7_greatestDivisor_6 (v := 0) (by decide) ?_
  refine g_istore X dX7_greatestDivisor_7 (by decide) (lv2 := [(8, .int 0), (6, .long p1), (4, .long p0), (0, .long p0), (2, .long p1)]) rfl ?_
  refine g_lv [0, 2, 1, 3, 4] (lv2 := [(8, .int 0), (4, .long p0), (6, .long p1), (0, .long p0), (2, .long p1)]) rfl ?_
  refine i_loop (mods := []) (fun x : Nat × Int64 × Int64 => 200 - x.1) (fun x => [(8, .int (nI (x.1))), (4, .long (x.2.1)), (6, .long (x.2.2)), (0, .long p0), (2, .long p1)]) (fun x C => 0 ≤ x.1 ∧ x.1 ≤ 200) (fun x L M C D F I K hP ih9 => ?_) ((0, p0, p1) : Nat × Int64 × Int64) F I K ⟨by show _ ≤ _; omega, by show _ ≤ _; omega⟩
  rcases x with ⟨i9_8, v9_4, v9_6⟩
  obtain ⟨hi9_8a, hi9_8b⟩ := hP
  refine g_lv [0, 1, 2, 3, 4] (lv2 := [(8, .int (nI i9_8)), (4, .long v9_4), (6, .long v9_6), (0, .long p0), (2, .long p1)]) rfl ?_
  refine g_iload X dX7_greatestDivisor_9 (j := 0) rfl ?_
  refine g_sipush X dX7_greatestDivisor_11 (v := 200) (by decide) ?_
  refine g_icmp_ge X dX7_greatestDivisor_14 (tgt := 45) (by decide) (fun q1 => ?_) (fun q1 => ?_)
  · skip
    have q1 : 200 ≤ i9_8 := (nI_leI (a := 200) (b := i9_8) (by omega) (by omega)).mp q1
    refine g_lload X dX7_greatestDivisor_45 (j := 1) rfl ?_
    exact g_lret X hrt dX7_greatestDivisor_47 (by decide) (by decide) ⟨C, D, F, I, K, trivial⟩
  · skip
    have q1 : ¬ 200 ≤ i9_8 := fun z => q1 ((nI_leI (a := 200) (b := i9_8) (by omega) (by omega)).mpr z)
    refine g_lload X dX7_greatestDivisor_17 (j := 2) rfl ?_
    refine g_lconst X dX7_greatestDivisor_19 (v := 0) (by decide) ?_
    refine g_lcmp X dX7_greatestDivisor_20 ?_
    refine g_if_eq X dX7_greatestDivisor_21 (tgt := 45) (by decide) (fun q2 => ?_) (fun q2 => ?_)
    · skip
      have q2t : v9_6 = (0 : Int64) := (lg_cmp_eq _ _).mp q2
      have q2k0 : (0 : Int64).toInt = 0 := (by decide)
      refine g_lload X dX7_greatestDivisor_45 (j := 1) rfl ?_
      exact g_lret X hrt dX7_greatestDivisor_47 (by decide) (by decide) ⟨C, D, F, I, K, trivial⟩
    · skip
      have q2t : ¬ v9_6 = (0 : Int64) := fun z => q2 ((lg_cmp_eq _ _).mpr z)
      have q2k0 : (0 : Int64).toInt = 0 := (by decide)
      refine g_lload X dX7_greatestDivisor_24 (j := 1) rfl ?_
      refine g_lload X dX7_greatestDivisor_26 (j := 2) rfl ?_
      refine g_lrem X dX7_greatestDivisor_28 q2t ?_
      refine Go.genL (fun o3 => ?_)
      refine g_lstore X dX7_greatestDivisor_29 (by decide) (lv2 := [(9, .long o3), (8, .int (nI i9_8)), (4, .long v9_4), (6, .long v9_6), (0, .long p0), (2, .long p1)]) rfl ?_
      refine g_lload X dX7_greatestDivisor_31 (j := 3) rfl ?_
      refine g_lstore X dX7_greatestDivisor_33 (by decide) (lv2 := [(4, .long v9_6), (9, .long o3), (8, .int (nI i9_8)), (6, .long v9_6), (0, .long p0), (2, .long p1)]) rfl ?_
      refine g_lload X dX7_greatestDivisor_35 (j := 1) rfl ?_
      refine g_lstore X dX7_greatestDivisor_37 (by decide) (lv2 := [(6, .long o3), (4, .long v9_6), (9, .long o3), (8, .int (nI i9_8)), (0, .long p0), (2, .long p1)]) rfl ?_
      refine g_iinc X dX7_greatestDivisor_39 (j := 3) rfl (v := nI (i9_8 + 1)) (nI_1 i9_8) (by decide) (lv2 := [(8, .int (nI (i9_8 + 1))), (6, .long o3), (4, .long v9_6), (9, .long o3), (0, .long p0), (2, .long p1)]) rfl ?_
      refine g_goto X dX7_greatestDivisor_42 (tgt := 9) (by decide) ?_
      refine g_lv [0, 2, 1, 4, 5] (lv2 := [(8, .int (nI (i9_8 + 1))), (4, .long v9_6), (6, .long o3), (0, .long p0), (2, .long p1)]) rfl ?_
      exact ih9 ((i9_8 + 1), v9_6, o3) L M C D F I K ⟨by omega, by omega⟩ (by show _ < _; omega)
set_option maxHeartbeats 4000000 in
set_option maxRecDepth 100000 in
theorem s_X7_partOfFraction (l : Launch) (G : va_G) {cy : Nat → ClassId} {L : List Nat} {M : Nat → va_E} {a : Nat → Nat} {act : Nat → Bool} {C0 : Nat → Nat → Int32} {D0 : Nat → Nat → Int64} {R : Nat → Nat → Option Nat} (F : WI L M a act (ent cy a C0 D0 R)) (I : Inv C0) (p0 : Int64) (p1 : Int64) (p2 : Int32)  : MJ l G cy yX7_partOfFraction cX7_partOfFraction 7 (some .long) 1 0 0 [.long p0, .long p1, .int p2] L M (fun r L2 M2 => ∃ C2 D2, WI L2 M2 a act (ent cy a C2 D2 R) ∧ Inv C2 ∧ Kp [] C0 D0 C2 D2 ∧ True) := by
  refine MJ.of (own := RX7) rfl (by decide) (Nat.le_of_ble_eq_true rfl) ?_
  intro p e s m below meth c A X hrt hnm
  obtain ⟨C, D, hC0, hD0, F, I, K⟩ : ∃ C D, C = C0 ∧ D = D0 ∧ WI L M a act (ent cy a C D R) ∧ Inv C ∧ Kp [] C0 D0 C D := ⟨C0, D0, rfl, rfl, F, I, Kp.rf⟩
  refine g_lload_n X dX7_partOfFraction_0 rfl (j := 0) rfl ?_
  refine g_mabsL X wd492 wd493 wd80 wd494 (by decide) (Nat.le_of_ble_eq_true rfl) (by decide) (by decide) dX7_partOfFraction_1 (fun o1 => ?_)
  refine g_lload_n X dX7_partOfFraction_4 rfl (j := 1) rfl ?_
  refine g_callSJ X (s_X7_greatestDivisor l G F I o1 p1 ) lk_X7_456 rfl rfl dX7_partOfFraction_5 (Nat.le_of_ble_eq_true rfl) ⟨by decide, by decide⟩ ⟨by decide, by decide⟩ (fun r2 L M hp => ?_)
  obtain ⟨C, D, F, I, K1, hr⟩ := hp
  have K := K.step K1 (by decide)
  refine g_lstore X dX7_partOfFraction_8 (by decide) (lv2 := [(5, .long r2), (0, .long p0), (2, .long p1), (4, .int p2)]) rfl ?_
  refine g_lload X dX7_partOfFraction_10 (j := 0) rfl ?_
  refine g_lconst X dX7_partOfFraction_12 (v := 0) (by decide) ?_
  refine g_lcmp X dX7_partOfFraction_13 ?_
  refine g_if_ne X dX7_partOfFraction_14 (tgt := 19) (by decide) (fun q3 => ?_) (fun q3 => ?_)
  · skip
    have q3t : ¬ r2 = (0 : Int64) := fun z => q3 ((lg_cmp_eq _ _).mpr z)
    have q3k0 : (0 : Int64).toInt = 0 := (by decide)
    refine g_iload X dX7_partOfFraction_19 (j := 3) rfl ?_
    refine g_if_ne X dX7_partOfFraction_21 (tgt := 31) (by decide) (fun q4 => ?_) (fun q4 => ?_)
    · skip
      refine g_lload_n X dX7_partOfFraction_31 rfl (j := 2) rfl ?_
      refine g_lload X dX7_partOfFraction_32 (j := 0) rfl ?_
      refine g_ldiv X dX7_partOfFraction_34 q3t ?_
      refine Go.genL (fun o5 => ?_)
      exact g_lret X hrt dX7_partOfFraction_35 (by decide) (by decide) ⟨C, D, F, I, K, trivial⟩
    · skip
      subst q4
      refine g_lload_n X dX7_partOfFraction_24 rfl (j := 1) rfl ?_
      refine g_lload X dX7_partOfFraction_25 (j := 0) rfl ?_
      refine g_ldiv X dX7_partOfFraction_27 q3t ?_
      refine Go.genL (fun o6 => ?_)
      refine g_goto X dX7_partOfFraction_28 (tgt := 35) (by decide) ?_
      exact g_lret X hrt dX7_partOfFraction_35 (by decide) (by decide) ⟨C, D, F, I, K, trivial⟩
  · skip
    have q3t : r2 = (0 : Int64) := (lg_cmp_eq _ _).mp q3
    have q3k0 : (0 : Int64).toInt = 0 := (by decide)
    refine g_lconst X dX7_partOfFraction_17 (v := 0) (by decide) ?_
    exact g_lret X hrt dX7_partOfFraction_18 (by decide) (by decide) ⟨C, D, F, I, K, trivial⟩
set_option maxHeartbeats 4000000 in
set_option maxRecDepth 100000 in
theorem s_X7_roadsAlike (l : Launch) (G : va_G) {cy : Nat → ClassId} {L : List Nat} {M : Nat → va_E} {a : Nat → Nat} {act : Nat → Bool} {C0 : Nat → Nat → Int32} {D0 : Nat → Nat → Int64} {R : Nat → Nat → Option Nat} (F : WI L M a act (ent cy a C0 D0 R)) (I : Inv C0) (p0 : Int32) (p1 : Nat) (hp1a : 0 ≤ p1) (hp1b : p1 ≤ 135) (p2 : Int32)  : MI l G cy yX7_roadsAlike cX7_roadsAlike 6 (some .int) 0 0 0 [.ref (a 0), .int p0, .int (nI p1), .int p2] L M (fun r L2 M2 => ∃ C2 D2, WI L2 M2 a act (ent cy a C2 D2 R) ∧ Inv C2 ∧ Kp [] C0 D0 C2 D2 ∧ True) := by
  refine MI.of (own := RX7) rfl (by decide) (Nat.le_of_ble_eq_true rfl) ?_
  intro p e s m below meth c A X hrt hnm
  obtain ⟨C, D, hC0, hD0, F, I, K⟩ : ∃ C D, C = C0 ∧ D = D0 ∧ WI L M a act (ent cy a C D R) ∧ Inv C ∧ Kp [] C0 D0 C D := ⟨C0, D0, rfl, rfl, F, I, Kp.rf⟩
  refine g_iconst X dX7_roadsAlike_0 (v := 0) (by decide) ?_
  refine g_istore X dX7_roadsAlike_1 (by decide) (lv2 := [(4, .int 0), (0, .ref (a 0)), (1, .int p0), (2, .int (nI p1)), (3, .int p2)]) rfl ?_
  refine g_iconst X dX7_roadsAlike_3 (v := 0) (by decide) ?_
  refine g_istore X dX7_roadsAlike_4 (by decide) (lv2 := [(5, .int 0), (4, .int 0), (0, .ref (a 0)), (1, .int p0), (2, .int (nI p1)), (3, .int p2)]) rfl ?_
  refine g_lv [0, 1, 2, 3, 4, 5] (lv2 := [(5, .int 0), (4, .int 0), (0, .ref (a 0)), (1, .int p0), (2, .int (nI p1)), (3, .int p2)]) rfl ?_
  refine i_loop (mods := []) (fun x : Nat × Int32 => 4 - x.1) (fun x => [(5, .int (nI (x.1))), (4, .int (x.2)), (0, .ref (a 0)), (1, .int p0), (2, .int (nI p1)), (3, .int p2)]) (fun x C => 0 ≤ x.1 ∧ x.1 ≤ 4) (fun x L M C D F I K hP ih6 => ?_) ((0, 0) : Nat × Int32) F I K ⟨by show _ ≤ _; omega, by show _ ≤ _; omega⟩
  rcases x with ⟨i6_5, v6_4⟩
  obtain ⟨hi6_5a, hi6_5b⟩ := hP
  refine g_lv [0, 1, 2, 3, 4, 5] (lv2 := [(5, .int (nI i6_5)), (4, .int v6_4), (0, .ref (a 0)), (1, .int p0), (2, .int (nI p1)), (3, .int p2)]) rfl ?_
  refine g_iload X dX7_roadsAlike_6 (j := 0) rfl ?_
  refine g_iconst X dX7_roadsAlike_8 (v := 4) (by decide) ?_
  refine g_icmp_ge X dX7_roadsAlike_9 (tgt := 47) (by decide) (fun q1 => ?_) (fun q1 => ?_)
  · skip
    have q1 : 4 ≤ i6_5 := (nI_leI (a := 4) (b := i6_5) (by omega) (by omega)).mp q1
    refine g_iload X dX7_roadsAlike_47 (j := 1) rfl ?_
    exact g_iret X hrt dX7_roadsAlike_49 (by decide) (by decide) ⟨C, D, F, I, K, trivial⟩
  · skip
    have q1 : ¬ 4 ≤ i6_5 := fun z => q1 ((nI_leI (a := 4) (b := i6_5) (by omega) (by omega)).mpr z)
    refine g_iload_n X dX7_roadsAlike_12 rfl (j := 3) rfl ?_
    refine g_iload X dX7_roadsAlike_13 (j := 0) rfl ?_
    refine g_ishr X dX7_roadsAlike_15 ?_
    refine Go.gen (fun o2 => ?_)
    refine g_iconst X dX7_roadsAlike_16 (v := 1) (by decide) ?_
    refine g_iand X dX7_roadsAlike_17 ?_
    refine Go.gen (fun o3 => ?_)
    refine g_if_eq X dX7_roadsAlike_18 (tgt := 41) (by decide) (fun q4 => ?_) (fun q4 => ?_)
    · skip
      subst q4
      refine g_iinc X dX7_roadsAlike_41 (j := 0) rfl (v := nI (i6_5 + 1)) (nI_1 i6_5) (by decide) (lv2 := [(5, .int (nI (i6_5 + 1))), (4, .int v6_4), (0, .ref (a 0)), (1, .int p0), (2, .int (nI p1)), (3, .int p2)]) rfl ?_
      refine g_goto X dX7_roadsAlike_44 (tgt := 6) (by decide) ?_
      refine g_lv [0, 1, 2, 3, 4, 5] (lv2 := [(5, .int (nI (i6_5 + 1))), (4, .int v6_4), (0, .ref (a 0)), (1, .int p0), (2, .int (nI p1)), (3, .int p2)]) rfl ?_
      exact ih6 ((i6_5 + 1), v6_4) L M C D F I K ⟨by omega, by omega⟩ (by show _ < _; omega)
    · skip
      refine g_aload_n X dX7_roadsAlike_21 rfl (j := 2) rfl ?_
      refine i_get X F 0 rfl rfl fk_X7_70 dX7_roadsAlike_22 rfl ?_
      refine g_iload X dX7_roadsAlike_25 (j := 0) rfl ?_
      refine g_sipush X dX7_roadsAlike_27 (v := 136) (by decide) ?_
      refine g_imul X dX7_roadsAlike_30 ?_
      refine Go.top (v := .int (nI (i6_5 * 136))) (congrArg Value.int (pk_mul i6_5 136)) ?_
      refine g_iload_n X dX7_roadsAlike_31 rfl (j := 4) rfl ?_
      refine g_iadd X dX7_roadsAlike_32 ?_
      refine Go.top (v := .int (nI ((i6_5 * 136) + p1))) (congrArg Value.int (nI_add (i6_5 * 136) p1)) ?_
      refine i_iald X F 42 rfl rfl dX7_roadsAlike_33 (vp_in_nI (by omega) (by decide)) rfl ?_
      refine Go.gen (fun o5 => ?_)
      refine g_iload_n X dX7_roadsAlike_34 rfl (j := 5) rfl ?_
      refine g_icmp_ne X dX7_roadsAlike_35 (tgt := 41) (by decide) (fun q6 => ?_) (fun q6 => ?_)
      · skip
        refine g_iinc X dX7_roadsAlike_41 (j := 0) rfl (v := nI (i6_5 + 1)) (nI_1 i6_5) (by decide) (lv2 := [(5, .int (nI (i6_5 + 1))), (4, .int v6_4), (0, .ref (a 0)), (1, .int p0), (2, .int (nI p1)), (3, .int p2)]) rfl ?_
        refine g_goto X dX7_roadsAlike_44 (tgt := 6) (by decide) ?_
        refine g_lv [0, 1, 2, 3, 4, 5] (lv2 := [(5, .int (nI (i6_5 + 1))), (4, .int v6_4), (0, .ref (a 0)), (1, .int p0), (2, .int (nI p1)), (3, .int p2)]) rfl ?_
        exact ih6 ((i6_5 + 1), v6_4) L M C D F I K ⟨by omega, by omega⟩ (by show _ < _; omega)
      · skip
        refine g_iinc X dX7_roadsAlike_38 (j := 1) rfl (v := (v6_4 + 1)) rfl (by decide) (lv2 := [(4, .int ((v6_4 + 1))), (5, .int (nI i6_5)), (0, .ref (a 0)), (1, .int p0), (2, .int (nI p1)), (3, .int p2)]) rfl ?_
        refine g_iinc X dX7_roadsAlike_41 (j := 1) rfl (v := nI (i6_5 + 1)) (nI_1 i6_5) (by decide) (lv2 := [(5, .int (nI (i6_5 + 1))), (4, .int ((v6_4 + 1))), (0, .ref (a 0)), (1, .int p0), (2, .int (nI p1)), (3, .int p2)]) rfl ?_
        refine g_goto X dX7_roadsAlike_44 (tgt := 6) (by decide) ?_
        refine g_lv [0, 1, 2, 3, 4, 5] (lv2 := [(5, .int (nI (i6_5 + 1))), (4, .int ((v6_4 + 1))), (0, .ref (a 0)), (1, .int p0), (2, .int (nI p1)), (3, .int p2)]) rfl ?_
        exact ih6 ((i6_5 + 1), (v6_4 + 1)) L M C D F I K ⟨by omega, by omega⟩ (by show _ < _; omega)
set_option maxHeartbeats 4000000 in
set_option maxRecDepth 100000 in
theorem s_X7_mostLeft (l : Launch) (G : va_G) {cy : Nat → ClassId} {L : List Nat} {M : Nat → va_E} {a : Nat → Nat} {act : Nat → Bool} {C0 : Nat → Nat → Int32} {D0 : Nat → Nat → Int64} {R : Nat → Nat → Option Nat} (F : WI L M a act (ent cy a C0 D0 R)) (I : Inv C0) (p0 : Int32) (p1 : Nat) (hp1a : 0 ≤ p1) (hp1b : p1 ≤ 7) (p2 : Nat) (hp2a : 0 ≤ p2) (hp2b : p2 ≤ 16)  : MI l G cy yX7_mostLeft cX7_mostLeft 7 (some .int) 1 0 0 [.ref (a 0), .int p0, .int (nI p1), .int (nI p2)] L M (fun r L2 M2 => ∃ C2 D2, WI L2 M2 a act (ent cy a C2 D2 R) ∧ Inv C2 ∧ Kp [] C0 D0 C2 D2 ∧ True) := by
  refine MI.of (own := RX7) rfl (by decide) (Nat.le_of_ble_eq_true rfl) ?_
  intro p e s m below meth c A X hrt hnm
  obtain ⟨C, D, hC0, hD0, F, I, K⟩ : ∃ C D, C = C0 ∧ D = D0 ∧ WI L M a act (ent cy a C D R) ∧ Inv C ∧ Kp [] C0 D0 C D := ⟨C0, D0, rfl, rfl, F, I, Kp.rf⟩
  refine g_iload_n X dX7_mostLeft_0 rfl (j := 3) rfl ?_
  refine g_bipush X dX7_mostLeft_1 (v := 8) (by decide) ?_
  refine g_imul X dX7_mostLeft_3 ?_
  refine Go.top (v := .int (nI (p2 * 8))) (congrArg Value.int (pk_mul p2 8)) ?_
  refine g_iload_n X dX7_mostLeft_4 rfl (j := 2) rfl ?_
  refine g_iadd X dX7_mostLeft_5 ?_
  refine Go.top (v := .int (nI ((p2 * 8) + p1))) (congrArg Value.int (nI_add (p2 * 8) p1)) ?_
  refine g_istore X dX7_mostLeft_6 (by decide) (lv2 := [(4, .int (nI ((p2 * 8) + p1))), (0, .ref (a 0)), (1, .int p0), (2, .int (nI p1)), (3, .int (nI p2))]) rfl ?_
  refine g_iconst X dX7_mostLeft_8 (v := 0) (by decide) ?_
  refine g_istore X dX7_mostLeft_9 (by decide) (lv2 := [(5, .int 0), (4, .int (nI ((p2 * 8) + p1))), (0, .ref (a 0)), (1, .int p0), (2, .int (nI p1)), (3, .int (nI p2))]) rfl ?_
  refine g_iconst X dX7_mostLeft_11 (v := 0) (by decide) ?_
  refine g_istore X dX7_mostLeft_12 (by decide) (lv2 := [(6, .int 0), (5, .int 0), (4, .int (nI ((p2 * 8) + p1))), (0, .ref (a 0)), (1, .int p0), (2, .int (nI p1)), (3, .int (nI p2))]) rfl ?_
  refine g_lv [0, 1, 2, 3, 4, 5, 6] (lv2 := [(6, .int 0), (5, .int 0), (4, .int (nI ((p2 * 8) + p1))), (0, .ref (a 0)), (1, .int p0), (2, .int (nI p1)), (3, .int (nI p2))]) rfl ?_
  refine i_loop (mods := []) (fun x : Nat × Int32 => 4 - x.1) (fun x => [(6, .int (nI (x.1))), (5, .int (x.2)), (4, .int (nI ((p2 * 8) + p1))), (0, .ref (a 0)), (1, .int p0), (2, .int (nI p1)), (3, .int (nI p2))]) (fun x C => 0 ≤ x.1 ∧ x.1 ≤ 4) (fun x L M C D F I K hP ih14 => ?_) ((0, 0) : Nat × Int32) F I K ⟨by show _ ≤ _; omega, by show _ ≤ _; omega⟩
  rcases x with ⟨i14_6, v14_5⟩
  obtain ⟨hi14_6a, hi14_6b⟩ := hP
  refine g_lv [0, 1, 2, 3, 4, 5, 6] (lv2 := [(6, .int (nI i14_6)), (5, .int v14_5), (4, .int (nI ((p2 * 8) + p1))), (0, .ref (a 0)), (1, .int p0), (2, .int (nI p1)), (3, .int (nI p2))]) rfl ?_
  refine g_iload X dX7_mostLeft_14 (j := 0) rfl ?_
  refine g_iconst X dX7_mostLeft_16 (v := 4) (by decide) ?_
  refine g_icmp_ge X dX7_mostLeft_17 (tgt := 63) (by decide) (fun q1 => ?_) (fun q1 => ?_)
  · skip
    have q1 : 4 ≤ i14_6 := (nI_leI (a := 4) (b := i14_6) (by omega) (by omega)).mp q1
    refine g_iload X dX7_mostLeft_63 (j := 1) rfl ?_
    exact g_iret X hrt dX7_mostLeft_65 (by decide) (by decide) ⟨C, D, F, I, K, trivial⟩
  · skip
    have q1 : ¬ 4 ≤ i14_6 := fun z => q1 ((nI_leI (a := 4) (b := i14_6) (by omega) (by omega)).mpr z)
    refine g_iload_n X dX7_mostLeft_20 rfl (j := 4) rfl ?_
    refine g_iload X dX7_mostLeft_21 (j := 0) rfl ?_
    refine g_ishr X dX7_mostLeft_23 ?_
    refine Go.gen (fun o2 => ?_)
    refine g_iconst X dX7_mostLeft_24 (v := 1) (by decide) ?_
    refine g_iand X dX7_mostLeft_25 ?_
    refine Go.gen (fun o3 => ?_)
    refine g_if_eq X dX7_mostLeft_26 (tgt := 57) (by decide) (fun q4 => ?_) (fun q4 => ?_)
    · skip
      subst q4
      refine g_iinc X dX7_mostLeft_57 (j := 0) rfl (v := nI (i14_6 + 1)) (nI_1 i14_6) (by decide) (lv2 := [(6, .int (nI (i14_6 + 1))), (5, .int v14_5), (4, .int (nI ((p2 * 8) + p1))), (0, .ref (a 0)), (1, .int p0), (2, .int (nI p1)), (3, .int (nI p2))]) rfl ?_
      refine g_goto X dX7_mostLeft_60 (tgt := 14) (by decide) ?_
      refine g_lv [0, 1, 2, 3, 4, 5, 6] (lv2 := [(6, .int (nI (i14_6 + 1))), (5, .int v14_5), (4, .int (nI ((p2 * 8) + p1))), (0, .ref (a 0)), (1, .int p0), (2, .int (nI p1)), (3, .int (nI p2))]) rfl ?_
      exact ih14 ((i14_6 + 1), v14_5) L M C D F I K ⟨by omega, by omega⟩ (by show _ < _; omega)
    · skip
      refine g_iload X dX7_mostLeft_29 (j := 1) rfl ?_
      refine g_aload_n X dX7_mostLeft_31 rfl (j := 3) rfl ?_
      refine g_iload_n X dX7_mostLeft_32 rfl (j := 4) rfl ?_
      refine g_iload X dX7_mostLeft_33 (j := 2) rfl ?_
      refine g_aload_n X dX7_mostLeft_35 rfl (j := 3) rfl ?_
      refine i_get X F 0 rfl rfl fk_X7_70 dX7_mostLeft_36 rfl ?_
      refine g_iload X dX7_mostLeft_39 (j := 0) rfl ?_
      refine g_sipush X dX7_mostLeft_41 (v := 136) (by decide) ?_
      refine g_imul X dX7_mostLeft_44 ?_
      refine Go.top (v := .int (nI (i14_6 * 136))) (congrArg Value.int (pk_mul i14_6 136)) ?_
      refine g_iload X dX7_mostLeft_45 (j := 2) rfl ?_
      refine g_iadd X dX7_mostLeft_47 ?_
      refine Go.top (v := .int (nI ((i14_6 * 136) + ((p2 * 8) + p1)))) (congrArg Value.int (nI_add (i14_6 * 136) ((p2 * 8) + p1))) ?_
      refine i_iald X F 42 rfl rfl dX7_mostLeft_48 (vp_in_nI (by omega) (by decide)) rfl ?_
      refine Go.gen (fun o5 => ?_)
      refine g_callVI X (s_X7_roadsAlike l G F I p0 ((p2 * 8) + p1) (by omega) (by omega) o5 ) lk_X7_444 (F.1 0 rfl).2 (F.1 0 rfl).1 rfl rfl dX7_mostLeft_49 (Nat.le_of_ble_eq_true rfl) ⟨by decide, by decide⟩ ⟨by decide, by decide⟩ (fun r6 L M hp => ?_)
      obtain ⟨C, D, F, I, K1, hr⟩ := hp
      have K := K.step K1 (by decide)
      refine g_mmax X wd503 wd79 wd80 wd81 (by decide) (Nat.le_of_ble_eq_true rfl) (by decide) (by decide) dX7_mostLeft_52 (fun o7 => ?_)
      refine g_istore X dX7_mostLeft_55 (by decide) (lv2 := [(5, .int o7), (6, .int (nI i14_6)), (4, .int (nI ((p2 * 8) + p1))), (0, .ref (a 0)), (1, .int p0), (2, .int (nI p1)), (3, .int (nI p2))]) rfl ?_
      refine g_iinc X dX7_mostLeft_57 (j := 1) rfl (v := nI (i14_6 + 1)) (nI_1 i14_6) (by decide) (lv2 := [(6, .int (nI (i14_6 + 1))), (5, .int o7), (4, .int (nI ((p2 * 8) + p1))), (0, .ref (a 0)), (1, .int p0), (2, .int (nI p1)), (3, .int (nI p2))]) rfl ?_
      refine g_goto X dX7_mostLeft_60 (tgt := 14) (by decide) ?_
      refine g_lv [0, 1, 2, 3, 4, 5, 6] (lv2 := [(6, .int (nI (i14_6 + 1))), (5, .int o7), (4, .int (nI ((p2 * 8) + p1))), (0, .ref (a 0)), (1, .int p0), (2, .int (nI p1)), (3, .int (nI p2))]) rfl ?_
      exact ih14 ((i14_6 + 1), o7) L M C D F I K ⟨by omega, by omega⟩ (by show _ < _; omega)
set_option maxHeartbeats 4000000 in
set_option maxRecDepth 100000 in
theorem s_X7_bestQuestion (l : Launch) (G : va_G) {cy : Nat → ClassId} {L : List Nat} {M : Nat → va_E} {a : Nat → Nat} {act : Nat → Bool} {C0 : Nat → Nat → Int32} {D0 : Nat → Nat → Int64} {R : Nat → Nat → Option Nat} (F : WI L M a act (ent cy a C0 D0 R)) (I : Inv C0) (p0 : Int32)  : MI l G cy yX7_bestQuestion cX7_bestQuestion 7 (some .int) 2 0 0 [.ref (a 0), .int p0] L M (fun r L2 M2 => ∃ C2 D2, WI L2 M2 a act (ent cy a C2 D2 R) ∧ Inv C2 ∧ Kp [] C0 D0 C2 D2 ∧ qs r) := by
  refine MI.of (own := RX7) rfl (by decide) (Nat.le_of_ble_eq_true rfl) ?_
  intro p e s m below meth c A X hrt hnm
  obtain ⟨C, D, hC0, hD0, F, I, K⟩ : ∃ C D, C = C0 ∧ D = D0 ∧ WI L M a act (ent cy a C D R) ∧ Inv C ∧ Kp [] C0 D0 C D := ⟨C0, D0, rfl, rfl, F, I, Kp.rf⟩
  refine g_iload_n X dX7_bestQuestion_0 rfl (j := 1) rfl ?_
  refine g_callSI X (s_J6_bitCount_0f7a4 l G F I p0 ) lk_X7_271 rfl rfl dX7_bestQuestion_1 (Nat.le_of_ble_eq_true rfl) ⟨by decide, by decide⟩ ⟨by decide, by decide⟩ (fun r1 L M hp => ?_)
  obtain ⟨C, D, F, I, K1, hr⟩ := hp
  have K := K.step K1 (by decide)
  have hbcr1 := hr
  refine g_istore_n X dX7_bestQuestion_4 rfl (by decide) (lv2 := [(2, .int r1), (0, .ref (a 0)), (1, .int p0)]) rfl ?_
  refine g_iconst X dX7_bestQuestion_5 (v := -1) (by decide) ?_
  refine g_istore_n X dX7_bestQuestion_6 rfl (by decide) (lv2 := [(3, .int (-1)), (2, .int r1), (0, .ref (a 0)), (1, .int p0)]) rfl ?_
  refine g_iconst X dX7_bestQuestion_7 (v := 0) (by decide) ?_
  refine g_istore X dX7_bestQuestion_8 (by decide) (lv2 := [(4, .int 0), (3, .int (-1)), (2, .int r1), (0, .ref (a 0)), (1, .int p0)]) rfl ?_
  refine g_lv [0, 2, 1, 3, 4] (lv2 := [(4, .int 0), (2, .int r1), (3, .int (-1)), (0, .ref (a 0)), (1, .int p0)]) rfl ?_
  refine i_loop (mods := []) (fun x : Nat × Int32 × Int32 => 8 - x.1) (fun x => [(4, .int (nI (x.1))), (2, .int (x.2.1)), (3, .int (x.2.2)), (0, .ref (a 0)), (1, .int p0)]) (fun x C => 0 ≤ x.1 ∧ x.1 ≤ 8 ∧ (qs (x.2.2))) (fun x L M C D F I K hP ih10 => ?_) ((0, r1, (-1)) : Nat × Int32 × Int32) F I K ⟨by show _ ≤ _; omega, by show _ ≤ _; omega, qs_m1⟩
  rcases x with ⟨i10_4, v10_2, v10_3⟩
  obtain ⟨hi10_4a, hi10_4b, hq10⟩ := hP
  refine g_lv [0, 1, 2, 3, 4] (lv2 := [(4, .int (nI i10_4)), (2, .int v10_2), (3, .int v10_3), (0, .ref (a 0)), (1, .int p0)]) rfl ?_
  refine g_iload X dX7_bestQuestion_10 (j := 0) rfl ?_
  refine g_aload_n X dX7_bestQuestion_12 rfl (j := 3) rfl ?_
  refine i_get X F 0 rfl rfl fk_X7_19 dX7_bestQuestion_13 rfl ?_
  obtain ⟨n2, hn2, en2⟩ := rg_nat ((I 3 8).2.2.2 rfl) (by decide)
  refine i_get X F 3 rfl rfl fk_X7_276 dX7_bestQuestion_16 (v := .int (nI n2)) (congrArg (fun z => some (Value.int z)) en2) ?_
  refine g_icmp_ge X dX7_bestQuestion_19 (tgt := 78) (by decide) (fun q3 => ?_) (fun q3 => ?_)
  · skip
    have q3 : n2 ≤ i10_4 := (nI_leI (a := n2) (b := i10_4) (by omega) (by omega)).mp q3
    refine g_iload_n X dX7_bestQuestion_78 rfl (j := 2) rfl ?_
    exact g_iret X hrt dX7_bestQuestion_79 (by decide) (by decide) ⟨C, D, F, I, K, hq10⟩
  · skip
    have q3 : ¬ n2 ≤ i10_4 := fun z => q3 ((nI_leI (a := n2) (b := i10_4) (by omega) (by omega)).mpr z)
    refine g_iconst X dX7_bestQuestion_22 (v := 0) (by decide) ?_
    refine g_istore X dX7_bestQuestion_23 (by decide) (lv2 := [(5, .int 0), (4, .int (nI i10_4)), (2, .int v10_2), (3, .int v10_3), (0, .ref (a 0)), (1, .int p0)]) rfl ?_
    refine g_lv [0, 2, 3, 1, 4, 5] (lv2 := [(5, .int 0), (2, .int v10_2), (3, .int v10_3), (4, .int (nI i10_4)), (0, .ref (a 0)), (1, .int p0)]) rfl ?_
    refine i_loop (mods := []) (fun x : Nat × Int32 × Int32 => 17 - x.1) (fun x => [(5, .int (nI (x.1))), (2, .int (x.2.1)), (3, .int (x.2.2)), (4, .int (nI i10_4)), (0, .ref (a 0)), (1, .int p0)]) (fun x C => 0 ≤ x.1 ∧ x.1 ≤ 17 ∧ (qs (x.2.2))) (fun x L M C D F I K hP ih25 => ?_) ((0, v10_2, v10_3) : Nat × Int32 × Int32) F I K ⟨by show _ ≤ _; omega, by show _ ≤ _; omega, hq10⟩
    rcases x with ⟨i25_5, v25_2, v25_3⟩
    obtain ⟨hi25_5a, hi25_5b, hq25⟩ := hP
    refine g_lv [0, 1, 2, 3, 4, 5] (lv2 := [(5, .int (nI i25_5)), (2, .int v25_2), (3, .int v25_3), (4, .int (nI i10_4)), (0, .ref (a 0)), (1, .int p0)]) rfl ?_
    refine g_iload X dX7_bestQuestion_25 (j := 0) rfl ?_
    refine g_aload_n X dX7_bestQuestion_27 rfl (j := 4) rfl ?_
    refine i_get X F 0 rfl rfl fk_X7_19 dX7_bestQuestion_28 rfl ?_
    obtain ⟨n4, hn4, en4⟩ := rg_nat ((I 3 1).1 rfl) (by decide)
    refine i_get X F 3 rfl rfl fk_X7_168 dX7_bestQuestion_31 (v := .int (nI n4)) (congrArg (fun z => some (Value.int z)) en4) ?_
    refine g_icmp_gt X dX7_bestQuestion_34 (tgt := 72) (by decide) (fun q5 => ?_) (fun q5 => ?_)
    · skip
      have q5 : n4 < i25_5 := (nI_ltI (a := n4) (b := i25_5) (by omega) (by omega)).mp q5
      refine g_iinc X dX7_bestQuestion_72 (j := 3) rfl (v := nI (i10_4 + 1)) (nI_1 i10_4) (by decide) (lv2 := [(4, .int (nI (i10_4 + 1))), (5, .int (nI i25_5)), (2, .int v25_2), (3, .int v25_3), (0, .ref (a 0)), (1, .int p0)]) rfl ?_
      refine g_goto X dX7_bestQuestion_75 (tgt := 10) (by decide) ?_
      refine g_lv [0, 2, 3, 4, 5] (lv2 := [(4, .int (nI (i10_4 + 1))), (2, .int v25_2), (3, .int v25_3), (0, .ref (a 0)), (1, .int p0)]) rfl ?_
      exact ih10 ((i10_4 + 1), v25_2, v25_3) L M C D F I K ⟨by omega, by omega, hq25⟩ (by show _ < _; omega)
    · skip
      have q5 : ¬ n4 < i25_5 := fun z => q5 ((nI_ltI (a := n4) (b := i25_5) (by omega) (by omega)).mpr z)
      refine g_aload_n X dX7_bestQuestion_37 rfl (j := 4) rfl ?_
      refine g_iload_n X dX7_bestQuestion_38 rfl (j := 5) rfl ?_
      refine g_iload X dX7_bestQuestion_39 (j := 3) rfl ?_
      refine g_iload X dX7_bestQuestion_41 (j := 0) rfl ?_
      refine g_callVI X (s_X7_mostLeft l G F I p0 i10_4 (by omega) (by omega) i25_5 (by omega) (by omega) ) lk_X7_299 (F.1 0 rfl).2 (F.1 0 rfl).1 rfl rfl dX7_bestQuestion_43 (Nat.le_of_ble_eq_true rfl) ⟨by decide, by decide⟩ ⟨by decide, by decide⟩ (fun r6 L M hp => ?_)
      obtain ⟨C, D, F, I, K1, hr⟩ := hp
      have K := K.step K1 (by decide)
      refine g_istore X dX7_bestQuestion_46 (by decide) (lv2 := [(6, .int r6), (5, .int (nI i25_5)), (2, .int v25_2), (3, .int v25_3), (4, .int (nI i10_4)), (0, .ref (a 0)), (1, .int p0)]) rfl ?_
      refine g_iload X dX7_bestQuestion_48 (j := 0) rfl ?_
      refine g_iload_n X dX7_bestQuestion_50 rfl (j := 2) rfl ?_
      refine g_icmp_ge X dX7_bestQuestion_51 (tgt := 66) (by decide) (fun q7 => ?_) (fun q7 => ?_)
      · skip
        refine g_iinc X dX7_bestQuestion_66 (j := 1) rfl (v := nI (i25_5 + 1)) (nI_1 i25_5) (by decide) (lv2 := [(5, .int (nI (i25_5 + 1))), (6, .int r6), (2, .int v25_2), (3, .int v25_3), (4, .int (nI i10_4)), (0, .ref (a 0)), (1, .int p0)]) rfl ?_
        refine g_goto X dX7_bestQuestion_69 (tgt := 25) (by decide) ?_
        refine g_lv [0, 2, 3, 4, 5, 6] (lv2 := [(5, .int (nI (i25_5 + 1))), (2, .int v25_2), (3, .int v25_3), (4, .int (nI i10_4)), (0, .ref (a 0)), (1, .int p0)]) rfl ?_
        exact ih25 ((i25_5 + 1), v25_2, v25_3) L M C D F I K ⟨by omega, by omega, hq25⟩ (by show _ < _; omega)
      · skip
        refine g_iload X dX7_bestQuestion_54 (j := 0) rfl ?_
        refine g_istore_n X dX7_bestQuestion_56 rfl (by decide) (lv2 := [(2, .int r6), (6, .int r6), (5, .int (nI i25_5)), (3, .int v25_3), (4, .int (nI i10_4)), (0, .ref (a 0)), (1, .int p0)]) rfl ?_
        refine g_bipush X dX7_bestQuestion_57 (v := 100) (by decide) ?_
        refine g_iload X dX7_bestQuestion_59 (j := 4) rfl ?_
        refine g_imul X dX7_bestQuestion_61 ?_
        refine Go.top (v := .int (nI (100 * i10_4))) (congrArg Value.int (pk_mul 100 i10_4)) ?_
        refine g_iload X dX7_bestQuestion_62 (j := 2) rfl ?_
        refine g_iadd X dX7_bestQuestion_64 ?_
        refine Go.top (v := .int (nI ((100 * i10_4) + i25_5))) (congrArg Value.int (nI_add (100 * i10_4) i25_5)) ?_
        refine g_istore_n X dX7_bestQuestion_65 rfl (by decide) (lv2 := [(3, .int (nI ((100 * i10_4) + i25_5))), (2, .int r6), (6, .int r6), (5, .int (nI i25_5)), (4, .int (nI i10_4)), (0, .ref (a 0)), (1, .int p0)]) rfl ?_
        refine g_iinc X dX7_bestQuestion_66 (j := 3) rfl (v := nI (i25_5 + 1)) (nI_1 i25_5) (by decide) (lv2 := [(5, .int (nI (i25_5 + 1))), (3, .int (nI ((100 * i10_4) + i25_5))), (2, .int r6), (6, .int r6), (4, .int (nI i10_4)), (0, .ref (a 0)), (1, .int p0)]) rfl ?_
        refine g_goto X dX7_bestQuestion_69 (tgt := 25) (by decide) ?_
        refine g_lv [0, 2, 1, 4, 5, 6] (lv2 := [(5, .int (nI (i25_5 + 1))), (2, .int r6), (3, .int (nI ((100 * i10_4) + i25_5))), (4, .int (nI i10_4)), (0, .ref (a 0)), (1, .int p0)]) rfl ?_
        exact ih25 ((i25_5 + 1), r6, nI ((100 * i10_4) + i25_5)) L M C D F I K ⟨by omega, by omega, (qs_of (by omega) (by omega))⟩ (by show _ < _; omega)
set_option maxHeartbeats 4000000 in
set_option maxRecDepth 100000 in
theorem s_X1_forget (l : Launch) (G : va_G) {cy : Nat → ClassId} {L : List Nat} {M : Nat → va_E} {a : Nat → Nat} {act : Nat → Bool} {C0 : Nat → Nat → Int32} {D0 : Nat → Nat → Int64} {R : Nat → Nat → Option Nat} (F : WI L M a act (ent cy a C0 D0 R)) (I : Inv C0)   : MV l G cy yX1_forget cX1_forget 1 none 0 0 0 [.ref (a 39)] L M (fun L2 M2 => ∃ C2 D2, WI L2 M2 a act (ent cy a C2 D2 R) ∧ Inv C2 ∧ Kp [39] C0 D0 C2 D2 ∧ True) := by
  refine MV.of (own := RX1) rfl (by decide) (Nat.le_of_ble_eq_true rfl) ?_
  intro p e s m below meth c A X hrt hnm
  obtain ⟨C, D, hC0, hD0, F, I, K⟩ : ∃ C D, C = C0 ∧ D = D0 ∧ WI L M a act (ent cy a C D R) ∧ Inv C ∧ Kp [39] C0 D0 C D := ⟨C0, D0, rfl, rfl, F, I, Kp.rf⟩
  refine g_aload_n X dX1_forget_0 rfl (j := 0) rfl ?_
  refine g_iconst X dX1_forget_1 (v := -1) (by decide) ?_
  refine i_put X F I 39 rfl rfl rfl fk_X1_9 dX1_forget_2 rfl rfl (Nat.le_of_ble_eq_true rfl) trivial (fun M C F I K1 hC => ?_)
  have K := K.step K1 (by decide)
  exact g_vret X hrt dX1_forget_5 (by decide) (by decide) ⟨C, D, F, I, K, trivial⟩
set_option maxHeartbeats 4000000 in
set_option maxRecDepth 100000 in
theorem s_X1_addInside (l : Launch) (G : va_G) {cy : Nat → ClassId} {L : List Nat} {M : Nat → va_E} {a : Nat → Nat} {act : Nat → Bool} {C0 : Nat → Nat → Int32} {D0 : Nat → Nat → Int64} {R : Nat → Nat → Option Nat} (F : WI L M a act (ent cy a C0 D0 R)) (I : Inv C0) (p0 : Int32) (p1 : Int64)  : MV l G cy yX1_addInside cX1_addInside 5 none 0 0 0 [.ref (a 39), .int p0, .long p1] L M (fun L2 M2 => ∃ C2 D2, WI L2 M2 a act (ent cy a C2 D2 R) ∧ Inv C2 ∧ Kp [40] C0 D0 C2 D2 ∧ True) := by
  refine MV.of (own := RX1) rfl (by decide) (Nat.le_of_ble_eq_true rfl) ?_
  intro p e s m below meth c A X hrt hnm
  obtain ⟨C, D, hC0, hD0, F, I, K⟩ : ∃ C D, C = C0 ∧ D = D0 ∧ WI L M a act (ent cy a C D R) ∧ Inv C ∧ Kp [40] C0 D0 C D := ⟨C0, D0, rfl, rfl, F, I, Kp.rf⟩
  refine g_iconst X dX1_addInside_0 (v := 0) (by decide) ?_
  refine g_istore X dX1_addInside_1 (by decide) (lv2 := [(4, .int 0), (0, .ref (a 39)), (1, .int p0), (2, .long p1)]) rfl ?_
  refine g_lv [0, 1, 2, 3] (lv2 := [(4, .int 0), (0, .ref (a 39)), (1, .int p0), (2, .long p1)]) rfl ?_
  refine i_loop (mods := [40]) (fun x : Nat => 8 - x) (fun x => [(4, .int (nI (x))), (0, .ref (a 39)), (1, .int p0), (2, .long p1)]) (fun x C => 0 ≤ x ∧ x ≤ 8) (fun x L M C D F I K hP ih3 => ?_) ((0) : Nat) F I K ⟨by show _ ≤ _; omega, by show _ ≤ _; omega⟩
  obtain ⟨i3_4, rfl⟩ : ∃ z, z = x := ⟨_, rfl⟩
  obtain ⟨hi3_4a, hi3_4b⟩ := hP
  refine g_lv [0, 1, 2, 3] (lv2 := [(4, .int (nI i3_4)), (0, .ref (a 39)), (1, .int p0), (2, .long p1)]) rfl ?_
  refine g_iload X dX1_addInside_3 (j := 0) rfl ?_
  refine g_aload_n X dX1_addInside_5 rfl (j := 1) rfl ?_
  refine i_get X F 39 rfl rfl fk_X1_23 dX1_addInside_6 rfl ?_
  obtain ⟨n1, hn1, en1⟩ := rg_nat ((I 3 8).2.2.2 rfl) (by decide)
  refine i_get X F 3 rfl rfl fk_X1_67 dX1_addInside_9 (v := .int (nI n1)) (congrArg (fun z => some (Value.int z)) en1) ?_
  refine g_icmp_ge X dX1_addInside_12 (tgt := 41) (by decide) (fun q2 => ?_) (fun q2 => ?_)
  · skip
    have q2 : n1 ≤ i3_4 := (nI_leI (a := n1) (b := i3_4) (by omega) (by omega)).mp q2
    exact g_vret X hrt dX1_addInside_41 (by decide) (by decide) ⟨C, D, F, I, K, trivial⟩
  · skip
    have q2 : ¬ n1 ≤ i3_4 := fun z => q2 ((nI_leI (a := n1) (b := i3_4) (by omega) (by omega)).mpr z)
    refine g_iload_n X dX1_addInside_15 rfl (j := 2) rfl ?_
    refine g_iload X dX1_addInside_16 (j := 0) rfl ?_
    refine g_ishr X dX1_addInside_18 ?_
    refine Go.gen (fun o3 => ?_)
    refine g_iconst X dX1_addInside_19 (v := 1) (by decide) ?_
    refine g_iand X dX1_addInside_20 ?_
    refine Go.gen (fun o4 => ?_)
    refine g_if_eq X dX1_addInside_21 (tgt := 35) (by decide) (fun q5 => ?_) (fun q5 => ?_)
    · skip
      subst q5
      refine g_iinc X dX1_addInside_35 (j := 0) rfl (v := nI (i3_4 + 1)) (nI_1 i3_4) (by decide) (lv2 := [(4, .int (nI (i3_4 + 1))), (0, .ref (a 39)), (1, .int p0), (2, .long p1)]) rfl ?_
      refine g_goto X dX1_addInside_38 (tgt := 3) (by decide) ?_
      refine g_lv [0, 1, 2, 3] (lv2 := [(4, .int (nI (i3_4 + 1))), (0, .ref (a 39)), (1, .int p0), (2, .long p1)]) rfl ?_
      exact ih3 ((i3_4 + 1)) L M C D F I K ⟨by omega, by omega⟩ (by show _ < _; omega)
    · skip
      refine g_aload_n X dX1_addInside_24 rfl (j := 1) rfl ?_
      refine i_get X F 39 rfl rfl fk_X1_15 dX1_addInside_25 rfl ?_
      refine g_iload X dX1_addInside_28 (j := 0) rfl ?_
      refine g_dup2 X dX1_addInside_30 rfl rfl ?_
      refine i_lald X F 40 rfl rfl dX1_addInside_31 (vp_in_nI (by omega) (by decide)) rfl ?_
      refine Go.genL (fun o6 => ?_)
      refine g_lload_n X dX1_addInside_32 rfl (j := 3) rfl ?_
      refine g_ladd X dX1_addInside_33 ?_
      refine Go.genL (fun o7 => ?_)
      refine i_last X F 40 rfl (fun _ => rfl) dX1_addInside_34 (vp_in_nI (by omega) (by decide)) (fun M D F K1 hC => ?_)
      have K := K.step K1 (by decide)
      refine g_iinc X dX1_addInside_35 (j := 0) rfl (v := nI (i3_4 + 1)) (nI_1 i3_4) (by decide) (lv2 := [(4, .int (nI (i3_4 + 1))), (0, .ref (a 39)), (1, .int p0), (2, .long p1)]) rfl ?_
      refine g_goto X dX1_addInside_38 (tgt := 3) (by decide) ?_
      refine g_lv [0, 1, 2, 3] (lv2 := [(4, .int (nI (i3_4 + 1))), (0, .ref (a 39)), (1, .int p0), (2, .long p1)]) rfl ?_
      exact ih3 ((i3_4 + 1)) L M C D F I K ⟨by omega, by omega⟩ (by show _ < _; omega)
set_option maxHeartbeats 4000000 in
set_option maxRecDepth 100000 in
theorem s_X1_drawnFrom (l : Launch) (G : va_G) {cy : Nat → ClassId} {L : List Nat} {M : Nat → va_E} {a : Nat → Nat} {act : Nat → Bool} {C0 : Nat → Nat → Int32} {D0 : Nat → Nat → Int64} {R : Nat → Nat → Option Nat} (F : WI L M a act (ent cy a C0 D0 R)) (I : Inv C0) (p0 : Int64)  : MI l G cy yX1_drawnFrom cX1_drawnFrom 7 (some .int) 0 0 0 [.ref (a 39), .long p0] L M (fun r L2 M2 => ∃ C2 D2, WI L2 M2 a act (ent cy a C2 D2 R) ∧ Inv C2 ∧ Kp [] C0 D0 C2 D2 ∧ True) := by
  refine MI.of (own := RX1) rfl (by decide) (Nat.le_of_ble_eq_true rfl) ?_
  intro p e s m below meth c A X hrt hnm
  obtain ⟨C, D, hC0, hD0, F, I, K⟩ : ∃ C D, C = C0 ∧ D = D0 ∧ WI L M a act (ent cy a C D R) ∧ Inv C ∧ Kp [] C0 D0 C D := ⟨C0, D0, rfl, rfl, F, I, Kp.rf⟩
  refine g_lload_n X dX1_drawnFrom_0 rfl (j := 1) rfl ?_
  refine g_lstore_n X dX1_drawnFrom_1 rfl (by decide) (lv2 := [(3, .long p0), (0, .ref (a 39)), (1, .long p0)]) rfl ?_
  refine g_iconst X dX1_drawnFrom_2 (v := 0) (by decide) ?_
  refine g_istore X dX1_drawnFrom_3 (by decide) (lv2 := [(5, .int 0), (3, .long p0), (0, .ref (a 39)), (1, .long p0)]) rfl ?_
  refine g_iconst X dX1_drawnFrom_5 (v := 0) (by decide) ?_
  refine g_istore X dX1_drawnFrom_6 (by decide) (lv2 := [(6, .int 0), (5, .int 0), (3, .long p0), (0, .ref (a 39)), (1, .long p0)]) rfl ?_
  refine g_lv [0, 2, 1, 3, 4] (lv2 := [(6, .int 0), (3, .long p0), (5, .int 0), (0, .ref (a 39)), (1, .long p0)]) rfl ?_
  refine i_loop (mods := []) (fun x : Nat × Int64 × Int32 => 16 - x.1) (fun x => [(6, .int (nI (x.1))), (3, .long (x.2.1)), (5, .int (x.2.2)), (0, .ref (a 39)), (1, .long p0)]) (fun x C => 0 ≤ x.1 ∧ x.1 ≤ 16) (fun x L M C D F I K hP ih8 => ?_) ((0, p0, 0) : Nat × Int64 × Int32) F I K ⟨by show _ ≤ _; omega, by show _ ≤ _; omega⟩
  rcases x with ⟨i8_6, v8_3, v8_5⟩
  obtain ⟨hi8_6a, hi8_6b⟩ := hP
  refine g_lv [0, 1, 2, 3, 4] (lv2 := [(6, .int (nI i8_6)), (3, .long v8_3), (5, .int v8_5), (0, .ref (a 39)), (1, .long p0)]) rfl ?_
  refine g_iload X dX1_drawnFrom_8 (j := 0) rfl ?_
  refine g_aload_n X dX1_drawnFrom_10 rfl (j := 3) rfl ?_
  refine i_get X F 39 rfl rfl fk_X1_23 dX1_drawnFrom_11 rfl ?_
  obtain ⟨n1, hn1, en1⟩ := rg_nat ((I 3 1).1 rfl) (by decide)
  refine i_get X F 3 rfl rfl fk_X1_70 dX1_drawnFrom_14 (v := .int (nI n1)) (congrArg (fun z => some (Value.int z)) en1) ?_
  refine g_icmp_ge X dX1_drawnFrom_17 (tgt := 70) (by decide) (fun q2 => ?_) (fun q2 => ?_)
  · skip
    have q2 : n1 ≤ i8_6 := (nI_leI (a := n1) (b := i8_6) (by omega) (by omega)).mp q2
    refine g_iload X dX1_drawnFrom_70 (j := 2) rfl ?_
    exact g_iret X hrt dX1_drawnFrom_72 (by decide) (by decide) ⟨C, D, F, I, K, trivial⟩
  · skip
    have q2 : ¬ n1 ≤ i8_6 := fun z => q2 ((nI_leI (a := n1) (b := i8_6) (by omega) (by omega)).mpr z)
    refine g_ldc2 X (v := 1103515245) wd511 dX1_drawnFrom_20 ?_
    refine g_lload_n X dX1_drawnFrom_23 rfl (j := 1) rfl ?_
    refine g_lmul X dX1_drawnFrom_24 ?_
    refine Go.genL (fun o3 => ?_)
    refine g_ldc2 X (v := 12345) wd512 dX1_drawnFrom_25 ?_
    refine g_ladd X dX1_drawnFrom_28 ?_
    refine Go.genL (fun o4 => ?_)
    refine g_ldc2 X (v := 2147483648) wd513 dX1_drawnFrom_29 ?_
    refine g_lrem X dX1_drawnFrom_32 (by decide) ?_
    refine Go.genL (fun o5 => ?_)
    refine g_lstore_n X dX1_drawnFrom_33 rfl (by decide) (lv2 := [(3, .long o5), (6, .int (nI i8_6)), (5, .int v8_5), (0, .ref (a 39)), (1, .long p0)]) rfl ?_
    refine g_lload_n X dX1_drawnFrom_34 rfl (j := 0) rfl ?_
    refine g_ldc2 X (v := 65536) wd514 dX1_drawnFrom_35 ?_
    refine g_ldiv X dX1_drawnFrom_38 (by decide) ?_
    refine Go.genL (fun o6 => ?_)
    refine g_ldc2 X (v := 10) wd515 dX1_drawnFrom_39 ?_
    refine g_lrem X dX1_drawnFrom_42 (by decide) ?_
    refine Go.genL (fun o7 => ?_)
    refine g_aload_n X dX1_drawnFrom_43 rfl (j := 3) rfl ?_
    refine i_get X F 39 rfl rfl fk_X1_23 dX1_drawnFrom_44 rfl ?_
    refine i_get X F 3 rfl rfl fk_X1_55 dX1_drawnFrom_47 rfl ?_
    refine Go.gen (fun o8 => ?_)
    refine g_i2l X dX1_drawnFrom_50 rfl ?_
    refine g_lcmp X dX1_drawnFrom_51 ?_
    refine g_if_ge X dX1_drawnFrom_52 (tgt := 64) (by decide) (fun q9 => ?_) (fun q9 => ?_)
    · skip
      have q9t : ((Int32.toInt64 o8)).toInt ≤ o7.toInt := Int64.le_iff_toInt_le.mp ((lg_cmp_ge _ _).mp q9)
      have q9wb := Jvm.Kit.i64_of_i32 o8
      refine g_iinc X dX1_drawnFrom_64 (j := 1) rfl (v := nI (i8_6 + 1)) (nI_1 i8_6) (by decide) (lv2 := [(6, .int (nI (i8_6 + 1))), (3, .long o5), (5, .int v8_5), (0, .ref (a 39)), (1, .long p0)]) rfl ?_
      refine g_goto X dX1_drawnFrom_67 (tgt := 8) (by decide) ?_
      refine g_lv [0, 1, 2, 3, 4] (lv2 := [(6, .int (nI (i8_6 + 1))), (3, .long o5), (5, .int v8_5), (0, .ref (a 39)), (1, .long p0)]) rfl ?_
      exact ih8 ((i8_6 + 1), o5, v8_5) L M C D F I K ⟨by omega, by omega⟩ (by show _ < _; omega)
    · skip
      have q9t : ¬ ((Int32.toInt64 o8)).toInt ≤ o7.toInt := fun z => q9 ((lg_cmp_ge _ _).mpr (Int64.le_iff_toInt_le.mpr z))
      have q9wb := Jvm.Kit.i64_of_i32 o8
      refine g_iload X dX1_drawnFrom_55 (j := 2) rfl ?_
      refine g_iconst X dX1_drawnFrom_57 (v := 1) (by decide) ?_
      refine g_iload X dX1_drawnFrom_58 (j := 1) rfl ?_
      refine g_ishl X dX1_drawnFrom_60 ?_
      refine Go.gen (fun o10 => ?_)
      refine g_ior X dX1_drawnFrom_61 ?_
      refine Go.gen (fun o11 => ?_)
      refine g_istore X dX1_drawnFrom_62 (by decide) (lv2 := [(5, .int o11), (3, .long o5), (6, .int (nI i8_6)), (0, .ref (a 39)), (1, .long p0)]) rfl ?_
      refine g_iinc X dX1_drawnFrom_64 (j := 2) rfl (v := nI (i8_6 + 1)) (nI_1 i8_6) (by decide) (lv2 := [(6, .int (nI (i8_6 + 1))), (5, .int o11), (3, .long o5), (0, .ref (a 39)), (1, .long p0)]) rfl ?_
      refine g_goto X dX1_drawnFrom_67 (tgt := 8) (by decide) ?_
      refine g_lv [0, 2, 1, 3, 4] (lv2 := [(6, .int (nI (i8_6 + 1))), (3, .long o5), (5, .int o11), (0, .ref (a 39)), (1, .long p0)]) rfl ?_
      exact ih8 ((i8_6 + 1), o5, o11) L M C D F I K ⟨by omega, by omega⟩ (by show _ < _; omega)
set_option maxHeartbeats 4000000 in
set_option maxRecDepth 100000 in
theorem s_X1_branch_8 (l : Launch) (G : va_G) {cy : Nat → ClassId} {L : List Nat} {M : Nat → va_E} {a : Nat → Nat} {act : Nat → Bool} {C0 : Nat → Nat → Int32} {D0 : Nat → Nat → Int64} {R : Nat → Nat → Option Nat} (F : WI L M a act (ent cy a C0 D0 R)) (I : Inv C0) (p3 : Nat) (hp3a : 0 ≤ p3) (hp3b : p3 ≤ 7) (p4 : Int64)  : MV l G cy yX1_branch cX1_branch 7 none 2 0 0 [.ref (a 39), .ref (a 31), .int 8, .int (nI p3), .long p4] L M (fun L2 M2 => ∃ C2 D2, WI L2 M2 a act (ent cy a C2 D2 R) ∧ Inv C2 ∧ Kp [31, 33, 34, 35, 36, 40] C0 D0 C2 D2 ∧ True) := by
  refine MV.of (own := RX1) rfl (by decide) (Nat.le_of_ble_eq_true rfl) ?_
  intro p e s m below meth c A X hrt hnm
  obtain ⟨C, D, hC0, hD0, F, I, K⟩ : ∃ C D, C = C0 ∧ D = D0 ∧ WI L M a act (ent cy a C D R) ∧ Inv C ∧ Kp [31, 33, 34, 35, 36, 40] C0 D0 C D := ⟨C0, D0, rfl, rfl, F, I, Kp.rf⟩
  refine g_iload_n X dX1_branch_0 rfl (j := 2) rfl ?_
  refine g_iload_n X dX1_branch_1 rfl (j := 3) rfl ?_
  refine g_icmp_gt X dX1_branch_2 (tgt := 11) (by decide) (fun q1 => ?_) (fun q1 => ?_)
  · skip
    have q1 : p3 < 8 := (nI_ltI (a := p3) (b := 8) (by omega) (by omega)).mp q1
    refine g_aload_n X dX1_branch_11 rfl (j := 0) rfl ?_
    refine g_aload_n X dX1_branch_12 rfl (j := 1) rfl ?_
    refine g_iload_n X dX1_branch_13 rfl (j := 2) rfl ?_
    refine g_callVI X (s_X4_walkersInside_31 l G F I 8 (by omega) (by omega) ) lk_X1_47 (F.1 31 rfl).2 (F.1 31 rfl).1 rfl rfl dX1_branch_14 (Nat.le_of_ble_eq_true rfl) ⟨by decide, by decide⟩ ⟨by decide, by decide⟩ (fun r2 L M hp => ?_)
    obtain ⟨C, D, F, I, K1, hr⟩ := hp
    have K := K.step K1 (by decide)
    refine g_lload X dX1_branch_17 (j := 4) rfl ?_
    refine g_callVV X (s_X1_addInside l G F I r2 p4 ) lk_X1_51 (F.1 39 rfl).2 (F.1 39 rfl).1 rfl rfl dX1_branch_19 (Nat.le_of_ble_eq_true rfl) ⟨by decide, by decide⟩ ⟨by decide, by decide⟩ (fun L M hp => ?_)
    obtain ⟨C, D, F, I, K1, hr⟩ := hp
    have K := K.step K1 (by decide)
    exact g_vret X hrt dX1_branch_22 (by decide) (by decide) ⟨C, D, F, I, K, trivial⟩
  · skip
    have q1 : ¬ p3 < 8 := fun z => q1 ((nI_ltI (a := p3) (b := 8) (by omega) (by omega)).mpr z)
    refine g_iload_n X dX1_branch_5 rfl (j := 2) rfl ?_
    refine g_bipush X dX1_branch_6 (v := 7) (by decide) ?_
    refine g_icmp_le X dX1_branch_8 (tgt := 23) (by decide) (fun q => absurd q (by decide)) (fun _ => ?_)
    refine g_aload_n X dX1_branch_11 rfl (j := 0) rfl ?_
    refine g_aload_n X dX1_branch_12 rfl (j := 1) rfl ?_
    refine g_iload_n X dX1_branch_13 rfl (j := 2) rfl ?_
    refine g_callVI X (s_X4_walkersInside_31 l G F I 8 (by omega) (by omega) ) lk_X1_47 (F.1 31 rfl).2 (F.1 31 rfl).1 rfl rfl dX1_branch_14 (Nat.le_of_ble_eq_true rfl) ⟨by decide, by decide⟩ ⟨by decide, by decide⟩ (fun r3 L M hp => ?_)
    obtain ⟨C, D, F, I, K1, hr⟩ := hp
    have K := K.step K1 (by decide)
    refine g_lload X dX1_branch_17 (j := 4) rfl ?_
    refine g_callVV X (s_X1_addInside l G F I r3 p4 ) lk_X1_51 (F.1 39 rfl).2 (F.1 39 rfl).1 rfl rfl dX1_branch_19 (Nat.le_of_ble_eq_true rfl) ⟨by decide, by decide⟩ ⟨by decide, by decide⟩ (fun L M hp => ?_)
    obtain ⟨C, D, F, I, K1, hr⟩ := hp
    have K := K.step K1 (by decide)
    exact g_vret X hrt dX1_branch_22 (by decide) (by decide) ⟨C, D, F, I, K, trivial⟩
set_option maxHeartbeats 4000000 in
set_option maxRecDepth 100000 in
theorem s_X1_branch_7 (l : Launch) (G : va_G) {cy : Nat → ClassId} {L : List Nat} {M : Nat → va_E} {a : Nat → Nat} {act : Nat → Bool} {C0 : Nat → Nat → Int32} {D0 : Nat → Nat → Int64} {R : Nat → Nat → Option Nat} (F : WI L M a act (ent cy a C0 D0 R)) (I : Inv C0) (p3 : Nat) (hp3a : 0 ≤ p3) (hp3b : p3 ≤ 7) (p4 : Int64)  : MV l G cy yX1_branch cX1_branch 7 none 3 0 0 [.ref (a 39), .ref (a 31), .int 7, .int (nI p3), .long p4] L M (fun L2 M2 => ∃ C2 D2, WI L2 M2 a act (ent cy a C2 D2 R) ∧ Inv C2 ∧ Kp [31, 33, 34, 35, 36, 40] C0 D0 C2 D2 ∧ True) := by
  refine MV.of (own := RX1) rfl (by decide) (Nat.le_of_ble_eq_true rfl) ?_
  intro p e s m below meth c A X hrt hnm
  obtain ⟨C, D, hC0, hD0, F, I, K⟩ : ∃ C D, C = C0 ∧ D = D0 ∧ WI L M a act (ent cy a C D R) ∧ Inv C ∧ Kp [31, 33, 34, 35, 36, 40] C0 D0 C D := ⟨C0, D0, rfl, rfl, F, I, Kp.rf⟩
  refine g_iload_n X dX1_branch_0 rfl (j := 2) rfl ?_
  refine g_iload_n X dX1_branch_1 rfl (j := 3) rfl ?_
  refine g_icmp_gt X dX1_branch_2 (tgt := 11) (by decide) (fun q1 => ?_) (fun q1 => ?_)
  · skip
    have q1 : p3 < 7 := (nI_ltI (a := p3) (b := 7) (by omega) (by omega)).mp q1
    refine g_aload_n X dX1_branch_11 rfl (j := 0) rfl ?_
    refine g_aload_n X dX1_branch_12 rfl (j := 1) rfl ?_
    refine g_iload_n X dX1_branch_13 rfl (j := 2) rfl ?_
    refine g_callVI X (s_X4_walkersInside_31 l G F I 7 (by omega) (by omega) ) lk_X1_47 (F.1 31 rfl).2 (F.1 31 rfl).1 rfl rfl dX1_branch_14 (Nat.le_of_ble_eq_true rfl) ⟨by decide, by decide⟩ ⟨by decide, by decide⟩ (fun r2 L M hp => ?_)
    obtain ⟨C, D, F, I, K1, hr⟩ := hp
    have K := K.step K1 (by decide)
    refine g_lload X dX1_branch_17 (j := 4) rfl ?_
    refine g_callVV X (s_X1_addInside l G F I r2 p4 ) lk_X1_51 (F.1 39 rfl).2 (F.1 39 rfl).1 rfl rfl dX1_branch_19 (Nat.le_of_ble_eq_true rfl) ⟨by decide, by decide⟩ ⟨by decide, by decide⟩ (fun L M hp => ?_)
    obtain ⟨C, D, F, I, K1, hr⟩ := hp
    have K := K.step K1 (by decide)
    exact g_vret X hrt dX1_branch_22 (by decide) (by decide) ⟨C, D, F, I, K, trivial⟩
  · skip
    have q1 : ¬ p3 < 7 := fun z => q1 ((nI_ltI (a := p3) (b := 7) (by omega) (by omega)).mpr z)
    refine g_iload_n X dX1_branch_5 rfl (j := 2) rfl ?_
    refine g_bipush X dX1_branch_6 (v := 7) (by decide) ?_
    refine g_icmp_le X dX1_branch_8 (tgt := 23) (by decide) (fun _ => ?_) (fun q => absurd (by decide) q)
    refine g_aload_n X dX1_branch_23 rfl (j := 0) rfl ?_
    refine i_get X F 39 rfl rfl fk_X1_23 dX1_branch_24 rfl ?_
    refine i_get X F 3 rfl rfl fk_X1_55 dX1_branch_27 rfl ?_
    refine Go.gen (fun o3 => ?_)
    refine g_istore X dX1_branch_30 (by decide) (lv2 := [(6, .int o3), (0, .ref (a 39)), (1, .ref (a 31)), (2, .int 7), (3, .int (nI p3)), (4, .long p4)]) rfl ?_
    refine g_iload X dX1_branch_32 (j := 0) rfl ?_
    refine g_if_le X dX1_branch_34 (tgt := 69) (by decide) (fun q4 => ?_) (fun q4 => ?_)
    · skip
      have q4t : o3.toInt ≤ (0 : Int32).toInt := Int32.le_iff_toInt_le.mp q4
      have q4k : (0 : Int32).toInt = 0 := (by decide)
      have q4b := Int32.toInt_lt o3
      refine g_iload X dX1_branch_69 (j := 0) rfl ?_
      refine g_bipush X dX1_branch_71 (v := 10) (by decide) ?_
      refine g_icmp_ge X dX1_branch_73 (tgt := 113) (by decide) (fun q5 => ?_) (fun q5 => ?_)
      · skip
        have q5t : (10 : Int32).toInt ≤ o3.toInt := Int32.le_iff_toInt_le.mp q5
        have q5k : (10 : Int32).toInt = 10 := (by decide)
        have q5b := Int32.toInt_lt o3
        obtain ⟨n6, hn6, rfl⟩ := nI_of (x := o3) (fun z => by have z2 := Int32.lt_iff_toInt_lt.mp z; have z3 : (0 : Int32).toInt = 0 := (by decide); omega)
        rw [nI_toInt (by omega)] at q5t
        have tn6 := nI_toInt (n := n6) (by omega)
        exact g_vret X hrt dX1_branch_113 (by decide) (by decide) ⟨C, D, F, I, K, trivial⟩
      · skip
        have q5t : ¬ (10 : Int32).toInt ≤ o3.toInt := fun z => q5 (Int32.le_iff_toInt_le.mpr z)
        have q5k : (10 : Int32).toInt = 10 := (by decide)
        have q5b := Int32.toInt_lt o3
        refine g_aload_n X dX1_branch_76 rfl (j := 2) rfl ?_
        refine g_dup X dX1_branch_77 rfl ?_
        refine i_get X F 31 rfl rfl fk_X1_60 dX1_branch_78 rfl ?_
        refine Go.gen (fun o7 => ?_)
        refine g_iconst X dX1_branch_81 (v := 1) (by decide) ?_
        refine g_iload_n X dX1_branch_82 rfl (j := 3) rfl ?_
        refine g_ishl X dX1_branch_83 ?_
        refine Go.top (v := .int 128) (by decide) ?_
        refine g_iconst X dX1_branch_84 (v := -1) (by decide) ?_
        refine g_ixor X dX1_branch_85 ?_
        refine Go.top (v := .int (-129)) (by decide) ?_
        refine g_iand X dX1_branch_86 ?_
        refine Go.gen (fun o8 => ?_)
        refine i_put X F I 31 rfl rfl rfl fk_X1_60 dX1_branch_87 rfl rfl (Nat.le_of_ble_eq_true rfl) trivial (fun M C F I K1 hC => ?_)
        have K := K.step K1 (by decide)
        refine g_aload_n X dX1_branch_90 rfl (j := 2) rfl ?_
        refine g_iload_n X dX1_branch_91 rfl (j := 3) rfl ?_
        refine g_callVV X (s_X4_passHour_31 l G F I 7 (by omega) (by omega) ) lk_X1_63 (F.1 31 rfl).2 (F.1 31 rfl).1 rfl rfl dX1_branch_92 (Nat.le_of_ble_eq_true rfl) ⟨by decide, by decide⟩ ⟨by decide, by decide⟩ (fun L M hp => ?_)
        obtain ⟨C, D, F, I, K1, hr⟩ := hp
        have K := K.step K1 (by decide)
        refine g_aload_n X dX1_branch_95 rfl (j := 1) rfl ?_
        refine g_aload_n X dX1_branch_96 rfl (j := 2) rfl ?_
        refine g_iload_n X dX1_branch_97 rfl (j := 3) rfl ?_
        refine g_iconst X dX1_branch_98 (v := 1) (by decide) ?_
        refine g_iadd X dX1_branch_99 ?_
        refine Go.top (v := .int 8) (by decide) ?_
        refine g_iload_n X dX1_branch_100 rfl (j := 4) rfl ?_
        refine g_lload X dX1_branch_101 (j := 5) rfl ?_
        refine g_bipush X dX1_branch_103 (v := 10) (by decide) ?_
        refine g_iload X dX1_branch_105 (j := 0) rfl ?_
        refine g_isub X dX1_branch_107 ?_
        refine Go.gen (fun o9 => ?_)
        refine g_i2l X dX1_branch_108 rfl ?_
        refine g_lmul X dX1_branch_109 ?_
        refine Go.genL (fun o10 => ?_)
        refine g_callSV X (s_X1_branch_8 l G F I p3 (by omega) (by omega) o10 ) lk_X1_43 rfl rfl dX1_branch_110 (Nat.le_of_ble_eq_true rfl) ⟨by decide, by decide⟩ ⟨by decide, by decide⟩ (fun L M hp => ?_)
        obtain ⟨C, D, F, I, K1, hr⟩ := hp
        have K := K.step K1 (by decide)
        exact g_vret X hrt dX1_branch_113 (by decide) (by decide) ⟨C, D, F, I, K, trivial⟩
    · skip
      have q4t : ¬ o3.toInt ≤ (0 : Int32).toInt := fun z => q4 (Int32.le_iff_toInt_le.mpr z)
      have q4k : (0 : Int32).toInt = 0 := (by decide)
      have q4b := Int32.toInt_lt o3
      obtain ⟨n11, hn11, rfl⟩ := nI_of (x := o3) (fun z => by have z2 := Int32.lt_iff_toInt_lt.mp z; have z3 : (0 : Int32).toInt = 0 := (by decide); omega)
      rw [nI_toInt (by omega)] at q4t
      have tn11 := nI_toInt (n := n11) (by omega)
      refine g_aload_n X dX1_branch_37 rfl (j := 2) rfl ?_
      refine g_dup X dX1_branch_38 rfl ?_
      refine i_get X F 31 rfl rfl fk_X1_60 dX1_branch_39 rfl ?_
      refine Go.gen (fun o12 => ?_)
      refine g_iconst X dX1_branch_42 (v := 1) (by decide) ?_
      refine g_iload_n X dX1_branch_43 rfl (j := 3) rfl ?_
      refine g_ishl X dX1_branch_44 ?_
      refine Go.top (v := .int 128) (by decide) ?_
      refine g_ior X dX1_branch_45 ?_
      refine Go.gen (fun o13 => ?_)
      refine i_put X F I 31 rfl rfl rfl fk_X1_60 dX1_branch_46 rfl rfl (Nat.le_of_ble_eq_true rfl) trivial (fun M C F I K1 hC => ?_)
      have K := K.step K1 (by decide)
      refine g_aload_n X dX1_branch_49 rfl (j := 2) rfl ?_
      refine g_iload_n X dX1_branch_50 rfl (j := 3) rfl ?_
      refine g_callVV X (s_X4_passHour_31 l G F I 7 (by omega) (by omega) ) lk_X1_63 (F.1 31 rfl).2 (F.1 31 rfl).1 rfl rfl dX1_branch_51 (Nat.le_of_ble_eq_true rfl) ⟨by decide, by decide⟩ ⟨by decide, by decide⟩ (fun L M hp => ?_)
      obtain ⟨C, D, F, I, K1, hr⟩ := hp
      have K := K.step K1 (by decide)
      refine g_aload_n X dX1_branch_54 rfl (j := 1) rfl ?_
      refine g_aload_n X dX1_branch_55 rfl (j := 2) rfl ?_
      refine g_iload_n X dX1_branch_56 rfl (j := 3) rfl ?_
      refine g_iconst X dX1_branch_57 (v := 1) (by decide) ?_
      refine g_iadd X dX1_branch_58 ?_
      refine Go.top (v := .int 8) (by decide) ?_
      refine g_iload_n X dX1_branch_59 rfl (j := 4) rfl ?_
      refine g_lload X dX1_branch_60 (j := 5) rfl ?_
      refine g_iload X dX1_branch_62 (j := 0) rfl ?_
      refine g_i2l X dX1_branch_64 rfl ?_
      refine g_lmul X dX1_branch_65 ?_
      refine Go.genL (fun o14 => ?_)
      refine g_callSV X (s_X1_branch_8 l G F I p3 (by omega) (by omega) o14 ) lk_X1_43 rfl rfl dX1_branch_66 (Nat.le_of_ble_eq_true rfl) ⟨by decide, by decide⟩ ⟨by decide, by decide⟩ (fun L M hp => ?_)
      obtain ⟨C, D, F, I, K1, hr⟩ := hp
      have K := K.step K1 (by decide)
      refine g_iload X dX1_branch_69 (j := 0) rfl ?_
      refine g_bipush X dX1_branch_71 (v := 10) (by decide) ?_
      refine g_icmp_ge X dX1_branch_73 (tgt := 113) (by decide) (fun q15 => ?_) (fun q15 => ?_)
      · skip
        have q15 : 10 ≤ n11 := (nI_leI (a := 10) (b := n11) (by omega) (by omega)).mp q15
        exact g_vret X hrt dX1_branch_113 (by decide) (by decide) ⟨C, D, F, I, K, trivial⟩
      · skip
        have q15 : ¬ 10 ≤ n11 := fun z => q15 ((nI_leI (a := 10) (b := n11) (by omega) (by omega)).mpr z)
        refine g_aload_n X dX1_branch_76 rfl (j := 2) rfl ?_
        refine g_dup X dX1_branch_77 rfl ?_
        refine i_get X F 31 rfl rfl fk_X1_60 dX1_branch_78 rfl ?_
        refine Go.gen (fun o16 => ?_)
        refine g_iconst X dX1_branch_81 (v := 1) (by decide) ?_
        refine g_iload_n X dX1_branch_82 rfl (j := 3) rfl ?_
        refine g_ishl X dX1_branch_83 ?_
        refine Go.top (v := .int 128) (by decide) ?_
        refine g_iconst X dX1_branch_84 (v := -1) (by decide) ?_
        refine g_ixor X dX1_branch_85 ?_
        refine Go.top (v := .int (-129)) (by decide) ?_
        refine g_iand X dX1_branch_86 ?_
        refine Go.gen (fun o17 => ?_)
        refine i_put X F I 31 rfl rfl rfl fk_X1_60 dX1_branch_87 rfl rfl (Nat.le_of_ble_eq_true rfl) trivial (fun M C F I K1 hC => ?_)
        have K := K.step K1 (by decide)
        refine g_aload_n X dX1_branch_90 rfl (j := 2) rfl ?_
        refine g_iload_n X dX1_branch_91 rfl (j := 3) rfl ?_
        refine g_callVV X (s_X4_passHour_31 l G F I 7 (by omega) (by omega) ) lk_X1_63 (F.1 31 rfl).2 (F.1 31 rfl).1 rfl rfl dX1_branch_92 (Nat.le_of_ble_eq_true rfl) ⟨by decide, by decide⟩ ⟨by decide, by decide⟩ (fun L M hp => ?_)
        obtain ⟨C, D, F, I, K1, hr⟩ := hp
        have K := K.step K1 (by decide)
        refine g_aload_n X dX1_branch_95 rfl (j := 1) rfl ?_
        refine g_aload_n X dX1_branch_96 rfl (j := 2) rfl ?_
        refine g_iload_n X dX1_branch_97 rfl (j := 3) rfl ?_
        refine g_iconst X dX1_branch_98 (v := 1) (by decide) ?_
        refine g_iadd X dX1_branch_99 ?_
        refine Go.top (v := .int 8) (by decide) ?_
        refine g_iload_n X dX1_branch_100 rfl (j := 4) rfl ?_
        refine g_lload X dX1_branch_101 (j := 5) rfl ?_
        refine g_bipush X dX1_branch_103 (v := 10) (by decide) ?_
        refine g_iload X dX1_branch_105 (j := 0) rfl ?_
        refine g_isub X dX1_branch_107 ?_
        refine Go.top (v := .int (nI (10 - n11))) (congrArg Value.int (pk_sub (a := 10) (b := n11) (by omega))) ?_
        refine g_i2l X dX1_branch_108 rfl ?_
        refine g_lmul X dX1_branch_109 ?_
        refine Go.genL (fun o18 => ?_)
        refine g_callSV X (s_X1_branch_8 l G F I p3 (by omega) (by omega) o18 ) lk_X1_43 rfl rfl dX1_branch_110 (Nat.le_of_ble_eq_true rfl) ⟨by decide, by decide⟩ ⟨by decide, by decide⟩ (fun L M hp => ?_)
        obtain ⟨C, D, F, I, K1, hr⟩ := hp
        have K := K.step K1 (by decide)
        exact g_vret X hrt dX1_branch_113 (by decide) (by decide) ⟨C, D, F, I, K, trivial⟩
set_option maxHeartbeats 4000000 in
set_option maxRecDepth 100000 in
theorem s_X1_branch_6 (l : Launch) (G : va_G) {cy : Nat → ClassId} {L : List Nat} {M : Nat → va_E} {a : Nat → Nat} {act : Nat → Bool} {C0 : Nat → Nat → Int32} {D0 : Nat → Nat → Int64} {R : Nat → Nat → Option Nat} (F : WI L M a act (ent cy a C0 D0 R)) (I : Inv C0) (p3 : Nat) (hp3a : 0 ≤ p3) (hp3b : p3 ≤ 7) (p4 : Int64)  : MV l G cy yX1_branch cX1_branch 7 none 4 0 0 [.ref (a 39), .ref (a 31), .int 6, .int (nI p3), .long p4] L M (fun L2 M2 => ∃ C2 D2, WI L2 M2 a act (ent cy a C2 D2 R) ∧ Inv C2 ∧ Kp [31, 33, 34, 35, 36, 40] C0 D0 C2 D2 ∧ True) := by
  refine MV.of (own := RX1) rfl (by decide) (Nat.le_of_ble_eq_true rfl) ?_
  intro p e s m below meth c A X hrt hnm
  obtain ⟨C, D, hC0, hD0, F, I, K⟩ : ∃ C D, C = C0 ∧ D = D0 ∧ WI L M a act (ent cy a C D R) ∧ Inv C ∧ Kp [31, 33, 34, 35, 36, 40] C0 D0 C D := ⟨C0, D0, rfl, rfl, F, I, Kp.rf⟩
  refine g_iload_n X dX1_branch_0 rfl (j := 2) rfl ?_
  refine g_iload_n X dX1_branch_1 rfl (j := 3) rfl ?_
  refine g_icmp_gt X dX1_branch_2 (tgt := 11) (by decide) (fun q1 => ?_) (fun q1 => ?_)
  · skip
    have q1 : p3 < 6 := (nI_ltI (a := p3) (b := 6) (by omega) (by omega)).mp q1
    refine g_aload_n X dX1_branch_11 rfl (j := 0) rfl ?_
    refine g_aload_n X dX1_branch_12 rfl (j := 1) rfl ?_
    refine g_iload_n X dX1_branch_13 rfl (j := 2) rfl ?_
    refine g_callVI X (s_X4_walkersInside_31 l G F I 6 (by omega) (by omega) ) lk_X1_47 (F.1 31 rfl).2 (F.1 31 rfl).1 rfl rfl dX1_branch_14 (Nat.le_of_ble_eq_true rfl) ⟨by decide, by decide⟩ ⟨by decide, by decide⟩ (fun r2 L M hp => ?_)
    obtain ⟨C, D, F, I, K1, hr⟩ := hp
    have K := K.step K1 (by decide)
    refine g_lload X dX1_branch_17 (j := 4) rfl ?_
    refine g_callVV X (s_X1_addInside l G F I r2 p4 ) lk_X1_51 (F.1 39 rfl).2 (F.1 39 rfl).1 rfl rfl dX1_branch_19 (Nat.le_of_ble_eq_true rfl) ⟨by decide, by decide⟩ ⟨by decide, by decide⟩ (fun L M hp => ?_)
    obtain ⟨C, D, F, I, K1, hr⟩ := hp
    have K := K.step K1 (by decide)
    exact g_vret X hrt dX1_branch_22 (by decide) (by decide) ⟨C, D, F, I, K, trivial⟩
  · skip
    have q1 : ¬ p3 < 6 := fun z => q1 ((nI_ltI (a := p3) (b := 6) (by omega) (by omega)).mpr z)
    refine g_iload_n X dX1_branch_5 rfl (j := 2) rfl ?_
    refine g_bipush X dX1_branch_6 (v := 7) (by decide) ?_
    refine g_icmp_le X dX1_branch_8 (tgt := 23) (by decide) (fun _ => ?_) (fun q => absurd (by decide) q)
    refine g_aload_n X dX1_branch_23 rfl (j := 0) rfl ?_
    refine i_get X F 39 rfl rfl fk_X1_23 dX1_branch_24 rfl ?_
    refine i_get X F 3 rfl rfl fk_X1_55 dX1_branch_27 rfl ?_
    refine Go.gen (fun o3 => ?_)
    refine g_istore X dX1_branch_30 (by decide) (lv2 := [(6, .int o3), (0, .ref (a 39)), (1, .ref (a 31)), (2, .int 6), (3, .int (nI p3)), (4, .long p4)]) rfl ?_
    refine g_iload X dX1_branch_32 (j := 0) rfl ?_
    refine g_if_le X dX1_branch_34 (tgt := 69) (by decide) (fun q4 => ?_) (fun q4 => ?_)
    · skip
      have q4t : o3.toInt ≤ (0 : Int32).toInt := Int32.le_iff_toInt_le.mp q4
      have q4k : (0 : Int32).toInt = 0 := (by decide)
      have q4b := Int32.toInt_lt o3
      refine g_iload X dX1_branch_69 (j := 0) rfl ?_
      refine g_bipush X dX1_branch_71 (v := 10) (by decide) ?_
      refine g_icmp_ge X dX1_branch_73 (tgt := 113) (by decide) (fun q5 => ?_) (fun q5 => ?_)
      · skip
        have q5t : (10 : Int32).toInt ≤ o3.toInt := Int32.le_iff_toInt_le.mp q5
        have q5k : (10 : Int32).toInt = 10 := (by decide)
        have q5b := Int32.toInt_lt o3
        obtain ⟨n6, hn6, rfl⟩ := nI_of (x := o3) (fun z => by have z2 := Int32.lt_iff_toInt_lt.mp z; have z3 : (0 : Int32).toInt = 0 := (by decide); omega)
        rw [nI_toInt (by omega)] at q5t
        have tn6 := nI_toInt (n := n6) (by omega)
        exact g_vret X hrt dX1_branch_113 (by decide) (by decide) ⟨C, D, F, I, K, trivial⟩
      · skip
        have q5t : ¬ (10 : Int32).toInt ≤ o3.toInt := fun z => q5 (Int32.le_iff_toInt_le.mpr z)
        have q5k : (10 : Int32).toInt = 10 := (by decide)
        have q5b := Int32.toInt_lt o3
        refine g_aload_n X dX1_branch_76 rfl (j := 2) rfl ?_
        refine g_dup X dX1_branch_77 rfl ?_
        refine i_get X F 31 rfl rfl fk_X1_60 dX1_branch_78 rfl ?_
        refine Go.gen (fun o7 => ?_)
        refine g_iconst X dX1_branch_81 (v := 1) (by decide) ?_
        refine g_iload_n X dX1_branch_82 rfl (j := 3) rfl ?_
        refine g_ishl X dX1_branch_83 ?_
        refine Go.top (v := .int 64) (by decide) ?_
        refine g_iconst X dX1_branch_84 (v := -1) (by decide) ?_
        refine g_ixor X dX1_branch_85 ?_
        refine Go.top (v := .int (-65)) (by decide) ?_
        refine g_iand X dX1_branch_86 ?_
        refine Go.gen (fun o8 => ?_)
        refine i_put X F I 31 rfl rfl rfl fk_X1_60 dX1_branch_87 rfl rfl (Nat.le_of_ble_eq_true rfl) trivial (fun M C F I K1 hC => ?_)
        have K := K.step K1 (by decide)
        refine g_aload_n X dX1_branch_90 rfl (j := 2) rfl ?_
        refine g_iload_n X dX1_branch_91 rfl (j := 3) rfl ?_
        refine g_callVV X (s_X4_passHour_31 l G F I 6 (by omega) (by omega) ) lk_X1_63 (F.1 31 rfl).2 (F.1 31 rfl).1 rfl rfl dX1_branch_92 (Nat.le_of_ble_eq_true rfl) ⟨by decide, by decide⟩ ⟨by decide, by decide⟩ (fun L M hp => ?_)
        obtain ⟨C, D, F, I, K1, hr⟩ := hp
        have K := K.step K1 (by decide)
        refine g_aload_n X dX1_branch_95 rfl (j := 1) rfl ?_
        refine g_aload_n X dX1_branch_96 rfl (j := 2) rfl ?_
        refine g_iload_n X dX1_branch_97 rfl (j := 3) rfl ?_
        refine g_iconst X dX1_branch_98 (v := 1) (by decide) ?_
        refine g_iadd X dX1_branch_99 ?_
        refine Go.top (v := .int 7) (by decide) ?_
        refine g_iload_n X dX1_branch_100 rfl (j := 4) rfl ?_
        refine g_lload X dX1_branch_101 (j := 5) rfl ?_
        refine g_bipush X dX1_branch_103 (v := 10) (by decide) ?_
        refine g_iload X dX1_branch_105 (j := 0) rfl ?_
        refine g_isub X dX1_branch_107 ?_
        refine Go.gen (fun o9 => ?_)
        refine g_i2l X dX1_branch_108 rfl ?_
        refine g_lmul X dX1_branch_109 ?_
        refine Go.genL (fun o10 => ?_)
        refine g_callSV X (s_X1_branch_7 l G F I p3 (by omega) (by omega) o10 ) lk_X1_43 rfl rfl dX1_branch_110 (Nat.le_of_ble_eq_true rfl) ⟨by decide, by decide⟩ ⟨by decide, by decide⟩ (fun L M hp => ?_)
        obtain ⟨C, D, F, I, K1, hr⟩ := hp
        have K := K.step K1 (by decide)
        exact g_vret X hrt dX1_branch_113 (by decide) (by decide) ⟨C, D, F, I, K, trivial⟩
    · skip
      have q4t : ¬ o3.toInt ≤ (0 : Int32).toInt := fun z => q4 (Int32.le_iff_toInt_le.mpr z)
      have q4k : (0 : Int32).toInt = 0 := (by decide)
      have q4b := Int32.toInt_lt o3
      obtain ⟨n11, hn11, rfl⟩ := nI_of (x := o3) (fun z => by have z2 := Int32.lt_iff_toInt_lt.mp z; have z3 : (0 : Int32).toInt = 0 := (by decide); omega)
      rw [nI_toInt (by omega)] at q4t
      have tn11 := nI_toInt (n := n11) (by omega)
      refine g_aload_n X dX1_branch_37 rfl (j := 2) rfl ?_
      refine g_dup X dX1_branch_38 rfl ?_
      refine i_get X F 31 rfl rfl fk_X1_60 dX1_branch_39 rfl ?_
      refine Go.gen (fun o12 => ?_)
      refine g_iconst X dX1_branch_42 (v := 1) (by decide) ?_
      refine g_iload_n X dX1_branch_43 rfl (j := 3) rfl ?_
      refine g_ishl X dX1_branch_44 ?_
      refine Go.top (v := .int 64) (by decide) ?_
      refine g_ior X dX1_branch_45 ?_
      refine Go.gen (fun o13 => ?_)
      refine i_put X F I 31 rfl rfl rfl fk_X1_60 dX1_branch_46 rfl rfl (Nat.le_of_ble_eq_true rfl) trivial (fun M C F I K1 hC => ?_)
      have K := K.step K1 (by decide)
      refine g_aload_n X dX1_branch_49 rfl (j := 2) rfl ?_
      refine g_iload_n X dX1_branch_50 rfl (j := 3) rfl ?_
      refine g_callVV X (s_X4_passHour_31 l G F I 6 (by omega) (by omega) ) lk_X1_63 (F.1 31 rfl).2 (F.1 31 rfl).1 rfl rfl dX1_branch_51 (Nat.le_of_ble_eq_true rfl) ⟨by decide, by decide⟩ ⟨by decide, by decide⟩ (fun L M hp => ?_)
      obtain ⟨C, D, F, I, K1, hr⟩ := hp
      have K := K.step K1 (by decide)
      refine g_aload_n X dX1_branch_54 rfl (j := 1) rfl ?_
      refine g_aload_n X dX1_branch_55 rfl (j := 2) rfl ?_
      refine g_iload_n X dX1_branch_56 rfl (j := 3) rfl ?_
      refine g_iconst X dX1_branch_57 (v := 1) (by decide) ?_
      refine g_iadd X dX1_branch_58 ?_
      refine Go.top (v := .int 7) (by decide) ?_
      refine g_iload_n X dX1_branch_59 rfl (j := 4) rfl ?_
      refine g_lload X dX1_branch_60 (j := 5) rfl ?_
      refine g_iload X dX1_branch_62 (j := 0) rfl ?_
      refine g_i2l X dX1_branch_64 rfl ?_
      refine g_lmul X dX1_branch_65 ?_
      refine Go.genL (fun o14 => ?_)
      refine g_callSV X (s_X1_branch_7 l G F I p3 (by omega) (by omega) o14 ) lk_X1_43 rfl rfl dX1_branch_66 (Nat.le_of_ble_eq_true rfl) ⟨by decide, by decide⟩ ⟨by decide, by decide⟩ (fun L M hp => ?_)
      obtain ⟨C, D, F, I, K1, hr⟩ := hp
      have K := K.step K1 (by decide)
      refine g_iload X dX1_branch_69 (j := 0) rfl ?_
      refine g_bipush X dX1_branch_71 (v := 10) (by decide) ?_
      refine g_icmp_ge X dX1_branch_73 (tgt := 113) (by decide) (fun q15 => ?_) (fun q15 => ?_)
      · skip
        have q15 : 10 ≤ n11 := (nI_leI (a := 10) (b := n11) (by omega) (by omega)).mp q15
        exact g_vret X hrt dX1_branch_113 (by decide) (by decide) ⟨C, D, F, I, K, trivial⟩
      · skip
        have q15 : ¬ 10 ≤ n11 := fun z => q15 ((nI_leI (a := 10) (b := n11) (by omega) (by omega)).mpr z)
        refine g_aload_n X dX1_branch_76 rfl (j := 2) rfl ?_
        refine g_dup X dX1_branch_77 rfl ?_
        refine i_get X F 31 rfl rfl fk_X1_60 dX1_branch_78 rfl ?_
        refine Go.gen (fun o16 => ?_)
        refine g_iconst X dX1_branch_81 (v := 1) (by decide) ?_
        refine g_iload_n X dX1_branch_82 rfl (j := 3) rfl ?_
        refine g_ishl X dX1_branch_83 ?_
        refine Go.top (v := .int 64) (by decide) ?_
        refine g_iconst X dX1_branch_84 (v := -1) (by decide) ?_
        refine g_ixor X dX1_branch_85 ?_
        refine Go.top (v := .int (-65)) (by decide) ?_
        refine g_iand X dX1_branch_86 ?_
        refine Go.gen (fun o17 => ?_)
        refine i_put X F I 31 rfl rfl rfl fk_X1_60 dX1_branch_87 rfl rfl (Nat.le_of_ble_eq_true rfl) trivial (fun M C F I K1 hC => ?_)
        have K := K.step K1 (by decide)
        refine g_aload_n X dX1_branch_90 rfl (j := 2) rfl ?_
        refine g_iload_n X dX1_branch_91 rfl (j := 3) rfl ?_
        refine g_callVV X (s_X4_passHour_31 l G F I 6 (by omega) (by omega) ) lk_X1_63 (F.1 31 rfl).2 (F.1 31 rfl).1 rfl rfl dX1_branch_92 (Nat.le_of_ble_eq_true rfl) ⟨by decide, by decide⟩ ⟨by decide, by decide⟩ (fun L M hp => ?_)
        obtain ⟨C, D, F, I, K1, hr⟩ := hp
        have K := K.step K1 (by decide)
        refine g_aload_n X dX1_branch_95 rfl (j := 1) rfl ?_
        refine g_aload_n X dX1_branch_96 rfl (j := 2) rfl ?_
        refine g_iload_n X dX1_branch_97 rfl (j := 3) rfl ?_
        refine g_iconst X dX1_branch_98 (v := 1) (by decide) ?_
        refine g_iadd X dX1_branch_99 ?_
        refine Go.top (v := .int 7) (by decide) ?_
        refine g_iload_n X dX1_branch_100 rfl (j := 4) rfl ?_
        refine g_lload X dX1_branch_101 (j := 5) rfl ?_
        refine g_bipush X dX1_branch_103 (v := 10) (by decide) ?_
        refine g_iload X dX1_branch_105 (j := 0) rfl ?_
        refine g_isub X dX1_branch_107 ?_
        refine Go.top (v := .int (nI (10 - n11))) (congrArg Value.int (pk_sub (a := 10) (b := n11) (by omega))) ?_
        refine g_i2l X dX1_branch_108 rfl ?_
        refine g_lmul X dX1_branch_109 ?_
        refine Go.genL (fun o18 => ?_)
        refine g_callSV X (s_X1_branch_7 l G F I p3 (by omega) (by omega) o18 ) lk_X1_43 rfl rfl dX1_branch_110 (Nat.le_of_ble_eq_true rfl) ⟨by decide, by decide⟩ ⟨by decide, by decide⟩ (fun L M hp => ?_)
        obtain ⟨C, D, F, I, K1, hr⟩ := hp
        have K := K.step K1 (by decide)
        exact g_vret X hrt dX1_branch_113 (by decide) (by decide) ⟨C, D, F, I, K, trivial⟩
set_option maxHeartbeats 4000000 in
set_option maxRecDepth 100000 in
theorem s_X1_branch_5 (l : Launch) (G : va_G) {cy : Nat → ClassId} {L : List Nat} {M : Nat → va_E} {a : Nat → Nat} {act : Nat → Bool} {C0 : Nat → Nat → Int32} {D0 : Nat → Nat → Int64} {R : Nat → Nat → Option Nat} (F : WI L M a act (ent cy a C0 D0 R)) (I : Inv C0) (p3 : Nat) (hp3a : 0 ≤ p3) (hp3b : p3 ≤ 7) (p4 : Int64)  : MV l G cy yX1_branch cX1_branch 7 none 5 0 0 [.ref (a 39), .ref (a 31), .int 5, .int (nI p3), .long p4] L M (fun L2 M2 => ∃ C2 D2, WI L2 M2 a act (ent cy a C2 D2 R) ∧ Inv C2 ∧ Kp [31, 33, 34, 35, 36, 40] C0 D0 C2 D2 ∧ True) := by
  refine MV.of (own := RX1) rfl (by decide) (Nat.le_of_ble_eq_true rfl) ?_
  intro p e s m below meth c A X hrt hnm
  obtain ⟨C, D, hC0, hD0, F, I, K⟩ : ∃ C D, C = C0 ∧ D = D0 ∧ WI L M a act (ent cy a C D R) ∧ Inv C ∧ Kp [31, 33, 34, 35, 36, 40] C0 D0 C D := ⟨C0, D0, rfl, rfl, F, I, Kp.rf⟩
  refine g_iload_n X dX1_branch_0 rfl (j := 2) rfl ?_
  refine g_iload_n X dX1_branch_1 rfl (j := 3) rfl ?_
  refine g_icmp_gt X dX1_branch_2 (tgt := 11) (by decide) (fun q1 => ?_) (fun q1 => ?_)
  · skip
    have q1 : p3 < 5 := (nI_ltI (a := p3) (b := 5) (by omega) (by omega)).mp q1
    refine g_aload_n X dX1_branch_11 rfl (j := 0) rfl ?_
    refine g_aload_n X dX1_branch_12 rfl (j := 1) rfl ?_
    refine g_iload_n X dX1_branch_13 rfl (j := 2) rfl ?_
    refine g_callVI X (s_X4_walkersInside_31 l G F I 5 (by omega) (by omega) ) lk_X1_47 (F.1 31 rfl).2 (F.1 31 rfl).1 rfl rfl dX1_branch_14 (Nat.le_of_ble_eq_true rfl) ⟨by decide, by decide⟩ ⟨by decide, by decide⟩ (fun r2 L M hp => ?_)
    obtain ⟨C, D, F, I, K1, hr⟩ := hp
    have K := K.step K1 (by decide)
    refine g_lload X dX1_branch_17 (j := 4) rfl ?_
    refine g_callVV X (s_X1_addInside l G F I r2 p4 ) lk_X1_51 (F.1 39 rfl).2 (F.1 39 rfl).1 rfl rfl dX1_branch_19 (Nat.le_of_ble_eq_true rfl) ⟨by decide, by decide⟩ ⟨by decide, by decide⟩ (fun L M hp => ?_)
    obtain ⟨C, D, F, I, K1, hr⟩ := hp
    have K := K.step K1 (by decide)
    exact g_vret X hrt dX1_branch_22 (by decide) (by decide) ⟨C, D, F, I, K, trivial⟩
  · skip
    have q1 : ¬ p3 < 5 := fun z => q1 ((nI_ltI (a := p3) (b := 5) (by omega) (by omega)).mpr z)
    refine g_iload_n X dX1_branch_5 rfl (j := 2) rfl ?_
    refine g_bipush X dX1_branch_6 (v := 7) (by decide) ?_
    refine g_icmp_le X dX1_branch_8 (tgt := 23) (by decide) (fun _ => ?_) (fun q => absurd (by decide) q)
    refine g_aload_n X dX1_branch_23 rfl (j := 0) rfl ?_
    refine i_get X F 39 rfl rfl fk_X1_23 dX1_branch_24 rfl ?_
    refine i_get X F 3 rfl rfl fk_X1_55 dX1_branch_27 rfl ?_
    refine Go.gen (fun o3 => ?_)
    refine g_istore X dX1_branch_30 (by decide) (lv2 := [(6, .int o3), (0, .ref (a 39)), (1, .ref (a 31)), (2, .int 5), (3, .int (nI p3)), (4, .long p4)]) rfl ?_
    refine g_iload X dX1_branch_32 (j := 0) rfl ?_
    refine g_if_le X dX1_branch_34 (tgt := 69) (by decide) (fun q4 => ?_) (fun q4 => ?_)
    · skip
      have q4t : o3.toInt ≤ (0 : Int32).toInt := Int32.le_iff_toInt_le.mp q4
      have q4k : (0 : Int32).toInt = 0 := (by decide)
      have q4b := Int32.toInt_lt o3
      refine g_iload X dX1_branch_69 (j := 0) rfl ?_
      refine g_bipush X dX1_branch_71 (v := 10) (by decide) ?_
      refine g_icmp_ge X dX1_branch_73 (tgt := 113) (by decide) (fun q5 => ?_) (fun q5 => ?_)
      · skip
        have q5t : (10 : Int32).toInt ≤ o3.toInt := Int32.le_iff_toInt_le.mp q5
        have q5k : (10 : Int32).toInt = 10 := (by decide)
        have q5b := Int32.toInt_lt o3
        obtain ⟨n6, hn6, rfl⟩ := nI_of (x := o3) (fun z => by have z2 := Int32.lt_iff_toInt_lt.mp z; have z3 : (0 : Int32).toInt = 0 := (by decide); omega)
        rw [nI_toInt (by omega)] at q5t
        have tn6 := nI_toInt (n := n6) (by omega)
        exact g_vret X hrt dX1_branch_113 (by decide) (by decide) ⟨C, D, F, I, K, trivial⟩
      · skip
        have q5t : ¬ (10 : Int32).toInt ≤ o3.toInt := fun z => q5 (Int32.le_iff_toInt_le.mpr z)
        have q5k : (10 : Int32).toInt = 10 := (by decide)
        have q5b := Int32.toInt_lt o3
        refine g_aload_n X dX1_branch_76 rfl (j := 2) rfl ?_
        refine g_dup X dX1_branch_77 rfl ?_
        refine i_get X F 31 rfl rfl fk_X1_60 dX1_branch_78 rfl ?_
        refine Go.gen (fun o7 => ?_)
        refine g_iconst X dX1_branch_81 (v := 1) (by decide) ?_
        refine g_iload_n X dX1_branch_82 rfl (j := 3) rfl ?_
        refine g_ishl X dX1_branch_83 ?_
        refine Go.top (v := .int 32) (by decide) ?_
        refine g_iconst X dX1_branch_84 (v := -1) (by decide) ?_
        refine g_ixor X dX1_branch_85 ?_
        refine Go.top (v := .int (-33)) (by decide) ?_
        refine g_iand X dX1_branch_86 ?_
        refine Go.gen (fun o8 => ?_)
        refine i_put X F I 31 rfl rfl rfl fk_X1_60 dX1_branch_87 rfl rfl (Nat.le_of_ble_eq_true rfl) trivial (fun M C F I K1 hC => ?_)
        have K := K.step K1 (by decide)
        refine g_aload_n X dX1_branch_90 rfl (j := 2) rfl ?_
        refine g_iload_n X dX1_branch_91 rfl (j := 3) rfl ?_
        refine g_callVV X (s_X4_passHour_31 l G F I 5 (by omega) (by omega) ) lk_X1_63 (F.1 31 rfl).2 (F.1 31 rfl).1 rfl rfl dX1_branch_92 (Nat.le_of_ble_eq_true rfl) ⟨by decide, by decide⟩ ⟨by decide, by decide⟩ (fun L M hp => ?_)
        obtain ⟨C, D, F, I, K1, hr⟩ := hp
        have K := K.step K1 (by decide)
        refine g_aload_n X dX1_branch_95 rfl (j := 1) rfl ?_
        refine g_aload_n X dX1_branch_96 rfl (j := 2) rfl ?_
        refine g_iload_n X dX1_branch_97 rfl (j := 3) rfl ?_
        refine g_iconst X dX1_branch_98 (v := 1) (by decide) ?_
        refine g_iadd X dX1_branch_99 ?_
        refine Go.top (v := .int 6) (by decide) ?_
        refine g_iload_n X dX1_branch_100 rfl (j := 4) rfl ?_
        refine g_lload X dX1_branch_101 (j := 5) rfl ?_
        refine g_bipush X dX1_branch_103 (v := 10) (by decide) ?_
        refine g_iload X dX1_branch_105 (j := 0) rfl ?_
        refine g_isub X dX1_branch_107 ?_
        refine Go.gen (fun o9 => ?_)
        refine g_i2l X dX1_branch_108 rfl ?_
        refine g_lmul X dX1_branch_109 ?_
        refine Go.genL (fun o10 => ?_)
        refine g_callSV X (s_X1_branch_6 l G F I p3 (by omega) (by omega) o10 ) lk_X1_43 rfl rfl dX1_branch_110 (Nat.le_of_ble_eq_true rfl) ⟨by decide, by decide⟩ ⟨by decide, by decide⟩ (fun L M hp => ?_)
        obtain ⟨C, D, F, I, K1, hr⟩ := hp
        have K := K.step K1 (by decide)
        exact g_vret X hrt dX1_branch_113 (by decide) (by decide) ⟨C, D, F, I, K, trivial⟩
    · skip
      have q4t : ¬ o3.toInt ≤ (0 : Int32).toInt := fun z => q4 (Int32.le_iff_toInt_le.mpr z)
      have q4k : (0 : Int32).toInt = 0 := (by decide)
      have q4b := Int32.toInt_lt o3
      obtain ⟨n11, hn11, rfl⟩ := nI_of (x := o3) (fun z => by have z2 := Int32.lt_iff_toInt_lt.mp z; have z3 : (0 : Int32).toInt = 0 := (by decide); omega)
      rw [nI_toInt (by omega)] at q4t
      have tn11 := nI_toInt (n := n11) (by omega)
      refine g_aload_n X dX1_branch_37 rfl (j := 2) rfl ?_
      refine g_dup X dX1_branch_38 rfl ?_
      refine i_get X F 31 rfl rfl fk_X1_60 dX1_branch_39 rfl ?_
      refine Go.gen (fun o12 => ?_)
      refine g_iconst X dX1_branch_42 (v := 1) (by decide) ?_
      refine g_iload_n X dX1_branch_43 rfl (j := 3) rfl ?_
      refine g_ishl X dX1_branch_44 ?_
      refine Go.top (v := .int 32) (by decide) ?_
      refine g_ior X dX1_branch_45 ?_
      refine Go.gen (fun o13 => ?_)
      refine i_put X F I 31 rfl rfl rfl fk_X1_60 dX1_branch_46 rfl rfl (Nat.le_of_ble_eq_true rfl) trivial (fun M C F I K1 hC => ?_)
      have K := K.step K1 (by decide)
      refine g_aload_n X dX1_branch_49 rfl (j := 2) rfl ?_
      refine g_iload_n X dX1_branch_50 rfl (j := 3) rfl ?_
      refine g_callVV X (s_X4_passHour_31 l G F I 5 (by omega) (by omega) ) lk_X1_63 (F.1 31 rfl).2 (F.1 31 rfl).1 rfl rfl dX1_branch_51 (Nat.le_of_ble_eq_true rfl) ⟨by decide, by decide⟩ ⟨by decide, by decide⟩ (fun L M hp => ?_)
      obtain ⟨C, D, F, I, K1, hr⟩ := hp
      have K := K.step K1 (by decide)
      refine g_aload_n X dX1_branch_54 rfl (j := 1) rfl ?_
      refine g_aload_n X dX1_branch_55 rfl (j := 2) rfl ?_
      refine g_iload_n X dX1_branch_56 rfl (j := 3) rfl ?_
      refine g_iconst X dX1_branch_57 (v := 1) (by decide) ?_
      refine g_iadd X dX1_branch_58 ?_
      refine Go.top (v := .int 6) (by decide) ?_
      refine g_iload_n X dX1_branch_59 rfl (j := 4) rfl ?_
      refine g_lload X dX1_branch_60 (j := 5) rfl ?_
      refine g_iload X dX1_branch_62 (j := 0) rfl ?_
      refine g_i2l X dX1_branch_64 rfl ?_
      refine g_lmul X dX1_branch_65 ?_
      refine Go.genL (fun o14 => ?_)
      refine g_callSV X (s_X1_branch_6 l G F I p3 (by omega) (by omega) o14 ) lk_X1_43 rfl rfl dX1_branch_66 (Nat.le_of_ble_eq_true rfl) ⟨by decide, by decide⟩ ⟨by decide, by decide⟩ (fun L M hp => ?_)
      obtain ⟨C, D, F, I, K1, hr⟩ := hp
      have K := K.step K1 (by decide)
      refine g_iload X dX1_branch_69 (j := 0) rfl ?_
      refine g_bipush X dX1_branch_71 (v := 10) (by decide) ?_
      refine g_icmp_ge X dX1_branch_73 (tgt := 113) (by decide) (fun q15 => ?_) (fun q15 => ?_)
      · skip
        have q15 : 10 ≤ n11 := (nI_leI (a := 10) (b := n11) (by omega) (by omega)).mp q15
        exact g_vret X hrt dX1_branch_113 (by decide) (by decide) ⟨C, D, F, I, K, trivial⟩
      · skip
        have q15 : ¬ 10 ≤ n11 := fun z => q15 ((nI_leI (a := 10) (b := n11) (by omega) (by omega)).mpr z)
        refine g_aload_n X dX1_branch_76 rfl (j := 2) rfl ?_
        refine g_dup X dX1_branch_77 rfl ?_
        refine i_get X F 31 rfl rfl fk_X1_60 dX1_branch_78 rfl ?_
        refine Go.gen (fun o16 => ?_)
        refine g_iconst X dX1_branch_81 (v := 1) (by decide) ?_
        refine g_iload_n X dX1_branch_82 rfl (j := 3) rfl ?_
        refine g_ishl X dX1_branch_83 ?_
        refine Go.top (v := .int 32) (by decide) ?_
        refine g_iconst X dX1_branch_84 (v := -1) (by decide) ?_
        refine g_ixor X dX1_branch_85 ?_
        refine Go.top (v := .int (-33)) (by decide) ?_
        refine g_iand X dX1_branch_86 ?_
        refine Go.gen (fun o17 => ?_)
        refine i_put X F I 31 rfl rfl rfl fk_X1_60 dX1_branch_87 rfl rfl (Nat.le_of_ble_eq_true rfl) trivial (fun M C F I K1 hC => ?_)
        have K := K.step K1 (by decide)
        refine g_aload_n X dX1_branch_90 rfl (j := 2) rfl ?_
        refine g_iload_n X dX1_branch_91 rfl (j := 3) rfl ?_
        refine g_callVV X (s_X4_passHour_31 l G F I 5 (by omega) (by omega) ) lk_X1_63 (F.1 31 rfl).2 (F.1 31 rfl).1 rfl rfl dX1_branch_92 (Nat.le_of_ble_eq_true rfl) ⟨by decide, by decide⟩ ⟨by decide, by decide⟩ (fun L M hp => ?_)
        obtain ⟨C, D, F, I, K1, hr⟩ := hp
        have K := K.step K1 (by decide)
        refine g_aload_n X dX1_branch_95 rfl (j := 1) rfl ?_
        refine g_aload_n X dX1_branch_96 rfl (j := 2) rfl ?_
        refine g_iload_n X dX1_branch_97 rfl (j := 3) rfl ?_
        refine g_iconst X dX1_branch_98 (v := 1) (by decide) ?_
        refine g_iadd X dX1_branch_99 ?_
        refine Go.top (v := .int 6) (by decide) ?_
        refine g_iload_n X dX1_branch_100 rfl (j := 4) rfl ?_
        refine g_lload X dX1_branch_101 (j := 5) rfl ?_
        refine g_bipush X dX1_branch_103 (v := 10) (by decide) ?_
        refine g_iload X dX1_branch_105 (j := 0) rfl ?_
        refine g_isub X dX1_branch_107 ?_
        refine Go.top (v := .int (nI (10 - n11))) (congrArg Value.int (pk_sub (a := 10) (b := n11) (by omega))) ?_
        refine g_i2l X dX1_branch_108 rfl ?_
        refine g_lmul X dX1_branch_109 ?_
        refine Go.genL (fun o18 => ?_)
        refine g_callSV X (s_X1_branch_6 l G F I p3 (by omega) (by omega) o18 ) lk_X1_43 rfl rfl dX1_branch_110 (Nat.le_of_ble_eq_true rfl) ⟨by decide, by decide⟩ ⟨by decide, by decide⟩ (fun L M hp => ?_)
        obtain ⟨C, D, F, I, K1, hr⟩ := hp
        have K := K.step K1 (by decide)
        exact g_vret X hrt dX1_branch_113 (by decide) (by decide) ⟨C, D, F, I, K, trivial⟩
set_option maxHeartbeats 4000000 in
set_option maxRecDepth 100000 in
theorem s_X1_branch_4 (l : Launch) (G : va_G) {cy : Nat → ClassId} {L : List Nat} {M : Nat → va_E} {a : Nat → Nat} {act : Nat → Bool} {C0 : Nat → Nat → Int32} {D0 : Nat → Nat → Int64} {R : Nat → Nat → Option Nat} (F : WI L M a act (ent cy a C0 D0 R)) (I : Inv C0) (p3 : Nat) (hp3a : 0 ≤ p3) (hp3b : p3 ≤ 7) (p4 : Int64)  : MV l G cy yX1_branch cX1_branch 7 none 6 0 0 [.ref (a 39), .ref (a 31), .int 4, .int (nI p3), .long p4] L M (fun L2 M2 => ∃ C2 D2, WI L2 M2 a act (ent cy a C2 D2 R) ∧ Inv C2 ∧ Kp [31, 33, 34, 35, 36, 40] C0 D0 C2 D2 ∧ True) := by
  refine MV.of (own := RX1) rfl (by decide) (Nat.le_of_ble_eq_true rfl) ?_
  intro p e s m below meth c A X hrt hnm
  obtain ⟨C, D, hC0, hD0, F, I, K⟩ : ∃ C D, C = C0 ∧ D = D0 ∧ WI L M a act (ent cy a C D R) ∧ Inv C ∧ Kp [31, 33, 34, 35, 36, 40] C0 D0 C D := ⟨C0, D0, rfl, rfl, F, I, Kp.rf⟩
  refine g_iload_n X dX1_branch_0 rfl (j := 2) rfl ?_
  refine g_iload_n X dX1_branch_1 rfl (j := 3) rfl ?_
  refine g_icmp_gt X dX1_branch_2 (tgt := 11) (by decide) (fun q1 => ?_) (fun q1 => ?_)
  · skip
    have q1 : p3 < 4 := (nI_ltI (a := p3) (b := 4) (by omega) (by omega)).mp q1
    refine g_aload_n X dX1_branch_11 rfl (j := 0) rfl ?_
    refine g_aload_n X dX1_branch_12 rfl (j := 1) rfl ?_
    refine g_iload_n X dX1_branch_13 rfl (j := 2) rfl ?_
    refine g_callVI X (s_X4_walkersInside_31 l G F I 4 (by omega) (by omega) ) lk_X1_47 (F.1 31 rfl).2 (F.1 31 rfl).1 rfl rfl dX1_branch_14 (Nat.le_of_ble_eq_true rfl) ⟨by decide, by decide⟩ ⟨by decide, by decide⟩ (fun r2 L M hp => ?_)
    obtain ⟨C, D, F, I, K1, hr⟩ := hp
    have K := K.step K1 (by decide)
    refine g_lload X dX1_branch_17 (j := 4) rfl ?_
    refine g_callVV X (s_X1_addInside l G F I r2 p4 ) lk_X1_51 (F.1 39 rfl).2 (F.1 39 rfl).1 rfl rfl dX1_branch_19 (Nat.le_of_ble_eq_true rfl) ⟨by decide, by decide⟩ ⟨by decide, by decide⟩ (fun L M hp => ?_)
    obtain ⟨C, D, F, I, K1, hr⟩ := hp
    have K := K.step K1 (by decide)
    exact g_vret X hrt dX1_branch_22 (by decide) (by decide) ⟨C, D, F, I, K, trivial⟩
  · skip
    have q1 : ¬ p3 < 4 := fun z => q1 ((nI_ltI (a := p3) (b := 4) (by omega) (by omega)).mpr z)
    refine g_iload_n X dX1_branch_5 rfl (j := 2) rfl ?_
    refine g_bipush X dX1_branch_6 (v := 7) (by decide) ?_
    refine g_icmp_le X dX1_branch_8 (tgt := 23) (by decide) (fun _ => ?_) (fun q => absurd (by decide) q)
    refine g_aload_n X dX1_branch_23 rfl (j := 0) rfl ?_
    refine i_get X F 39 rfl rfl fk_X1_23 dX1_branch_24 rfl ?_
    refine i_get X F 3 rfl rfl fk_X1_55 dX1_branch_27 rfl ?_
    refine Go.gen (fun o3 => ?_)
    refine g_istore X dX1_branch_30 (by decide) (lv2 := [(6, .int o3), (0, .ref (a 39)), (1, .ref (a 31)), (2, .int 4), (3, .int (nI p3)), (4, .long p4)]) rfl ?_
    refine g_iload X dX1_branch_32 (j := 0) rfl ?_
    refine g_if_le X dX1_branch_34 (tgt := 69) (by decide) (fun q4 => ?_) (fun q4 => ?_)
    · skip
      have q4t : o3.toInt ≤ (0 : Int32).toInt := Int32.le_iff_toInt_le.mp q4
      have q4k : (0 : Int32).toInt = 0 := (by decide)
      have q4b := Int32.toInt_lt o3
      refine g_iload X dX1_branch_69 (j := 0) rfl ?_
      refine g_bipush X dX1_branch_71 (v := 10) (by decide) ?_
      refine g_icmp_ge X dX1_branch_73 (tgt := 113) (by decide) (fun q5 => ?_) (fun q5 => ?_)
      · skip
        have q5t : (10 : Int32).toInt ≤ o3.toInt := Int32.le_iff_toInt_le.mp q5
        have q5k : (10 : Int32).toInt = 10 := (by decide)
        have q5b := Int32.toInt_lt o3
        obtain ⟨n6, hn6, rfl⟩ := nI_of (x := o3) (fun z => by have z2 := Int32.lt_iff_toInt_lt.mp z; have z3 : (0 : Int32).toInt = 0 := (by decide); omega)
        rw [nI_toInt (by omega)] at q5t
        have tn6 := nI_toInt (n := n6) (by omega)
        exact g_vret X hrt dX1_branch_113 (by decide) (by decide) ⟨C, D, F, I, K, trivial⟩
      · skip
        have q5t : ¬ (10 : Int32).toInt ≤ o3.toInt := fun z => q5 (Int32.le_iff_toInt_le.mpr z)
        have q5k : (10 : Int32).toInt = 10 := (by decide)
        have q5b := Int32.toInt_lt o3
        refine g_aload_n X dX1_branch_76 rfl (j := 2) rfl ?_
        refine g_dup X dX1_branch_77 rfl ?_
        refine i_get X F 31 rfl rfl fk_X1_60 dX1_branch_78 rfl ?_
        refine Go.gen (fun o7 => ?_)
        refine g_iconst X dX1_branch_81 (v := 1) (by decide) ?_
        refine g_iload_n X dX1_branch_82 rfl (j := 3) rfl ?_
        refine g_ishl X dX1_branch_83 ?_
        refine Go.top (v := .int 16) (by decide) ?_
        refine g_iconst X dX1_branch_84 (v := -1) (by decide) ?_
        refine g_ixor X dX1_branch_85 ?_
        refine Go.top (v := .int (-17)) (by decide) ?_
        refine g_iand X dX1_branch_86 ?_
        refine Go.gen (fun o8 => ?_)
        refine i_put X F I 31 rfl rfl rfl fk_X1_60 dX1_branch_87 rfl rfl (Nat.le_of_ble_eq_true rfl) trivial (fun M C F I K1 hC => ?_)
        have K := K.step K1 (by decide)
        refine g_aload_n X dX1_branch_90 rfl (j := 2) rfl ?_
        refine g_iload_n X dX1_branch_91 rfl (j := 3) rfl ?_
        refine g_callVV X (s_X4_passHour_31 l G F I 4 (by omega) (by omega) ) lk_X1_63 (F.1 31 rfl).2 (F.1 31 rfl).1 rfl rfl dX1_branch_92 (Nat.le_of_ble_eq_true rfl) ⟨by decide, by decide⟩ ⟨by decide, by decide⟩ (fun L M hp => ?_)
        obtain ⟨C, D, F, I, K1, hr⟩ := hp
        have K := K.step K1 (by decide)
        refine g_aload_n X dX1_branch_95 rfl (j := 1) rfl ?_
        refine g_aload_n X dX1_branch_96 rfl (j := 2) rfl ?_
        refine g_iload_n X dX1_branch_97 rfl (j := 3) rfl ?_
        refine g_iconst X dX1_branch_98 (v := 1) (by decide) ?_
        refine g_iadd X dX1_branch_99 ?_
        refine Go.top (v := .int 5) (by decide) ?_
        refine g_iload_n X dX1_branch_100 rfl (j := 4) rfl ?_
        refine g_lload X dX1_branch_101 (j := 5) rfl ?_
        refine g_bipush X dX1_branch_103 (v := 10) (by decide) ?_
        refine g_iload X dX1_branch_105 (j := 0) rfl ?_
        refine g_isub X dX1_branch_107 ?_
        refine Go.gen (fun o9 => ?_)
        refine g_i2l X dX1_branch_108 rfl ?_
        refine g_lmul X dX1_branch_109 ?_
        refine Go.genL (fun o10 => ?_)
        refine g_callSV X (s_X1_branch_5 l G F I p3 (by omega) (by omega) o10 ) lk_X1_43 rfl rfl dX1_branch_110 (Nat.le_of_ble_eq_true rfl) ⟨by decide, by decide⟩ ⟨by decide, by decide⟩ (fun L M hp => ?_)
        obtain ⟨C, D, F, I, K1, hr⟩ := hp
        have K := K.step K1 (by decide)
        exact g_vret X hrt dX1_branch_113 (by decide) (by decide) ⟨C, D, F, I, K, trivial⟩
    · skip
      have q4t : ¬ o3.toInt ≤ (0 : Int32).toInt := fun z => q4 (Int32.le_iff_toInt_le.mpr z)
      have q4k : (0 : Int32).toInt = 0 := (by decide)
      have q4b := Int32.toInt_lt o3
      obtain ⟨n11, hn11, rfl⟩ := nI_of (x := o3) (fun z => by have z2 := Int32.lt_iff_toInt_lt.mp z; have z3 : (0 : Int32).toInt = 0 := (by decide); omega)
      rw [nI_toInt (by omega)] at q4t
      have tn11 := nI_toInt (n := n11) (by omega)
      refine g_aload_n X dX1_branch_37 rfl (j := 2) rfl ?_
      refine g_dup X dX1_branch_38 rfl ?_
      refine i_get X F 31 rfl rfl fk_X1_60 dX1_branch_39 rfl ?_
      refine Go.gen (fun o12 => ?_)
      refine g_iconst X dX1_branch_42 (v := 1) (by decide) ?_
      refine g_iload_n X dX1_branch_43 rfl (j := 3) rfl ?_
      refine g_ishl X dX1_branch_44 ?_
      refine Go.top (v := .int 16) (by decide) ?_
      refine g_ior X dX1_branch_45 ?_
      refine Go.gen (fun o13 => ?_)
      refine i_put X F I 31 rfl rfl rfl fk_X1_60 dX1_branch_46 rfl rfl (Nat.le_of_ble_eq_true rfl) trivial (fun M C F I K1 hC => ?_)
      have K := K.step K1 (by decide)
      refine g_aload_n X dX1_branch_49 rfl (j := 2) rfl ?_
      refine g_iload_n X dX1_branch_50 rfl (j := 3) rfl ?_
      refine g_callVV X (s_X4_passHour_31 l G F I 4 (by omega) (by omega) ) lk_X1_63 (F.1 31 rfl).2 (F.1 31 rfl).1 rfl rfl dX1_branch_51 (Nat.le_of_ble_eq_true rfl) ⟨by decide, by decide⟩ ⟨by decide, by decide⟩ (fun L M hp => ?_)
      obtain ⟨C, D, F, I, K1, hr⟩ := hp
      have K := K.step K1 (by decide)
      refine g_aload_n X dX1_branch_54 rfl (j := 1) rfl ?_
      refine g_aload_n X dX1_branch_55 rfl (j := 2) rfl ?_
      refine g_iload_n X dX1_branch_56 rfl (j := 3) rfl ?_
      refine g_iconst X dX1_branch_57 (v := 1) (by decide) ?_
      refine g_iadd X dX1_branch_58 ?_
      refine Go.top (v := .int 5) (by decide) ?_
      refine g_iload_n X dX1_branch_59 rfl (j := 4) rfl ?_
      refine g_lload X dX1_branch_60 (j := 5) rfl ?_
      refine g_iload X dX1_branch_62 (j := 0) rfl ?_
      refine g_i2l X dX1_branch_64 rfl ?_
      refine g_lmul X dX1_branch_65 ?_
      refine Go.genL (fun o14 => ?_)
      refine g_callSV X (s_X1_branch_5 l G F I p3 (by omega) (by omega) o14 ) lk_X1_43 rfl rfl dX1_branch_66 (Nat.le_of_ble_eq_true rfl) ⟨by decide, by decide⟩ ⟨by decide, by decide⟩ (fun L M hp => ?_)
      obtain ⟨C, D, F, I, K1, hr⟩ := hp
      have K := K.step K1 (by decide)
      refine g_iload X dX1_branch_69 (j := 0) rfl ?_
      refine g_bipush X dX1_branch_71 (v := 10) (by decide) ?_
      refine g_icmp_ge X dX1_branch_73 (tgt := 113) (by decide) (fun q15 => ?_) (fun q15 => ?_)
      · skip
        have q15 : 10 ≤ n11 := (nI_leI (a := 10) (b := n11) (by omega) (by omega)).mp q15
        exact g_vret X hrt dX1_branch_113 (by decide) (by decide) ⟨C, D, F, I, K, trivial⟩
      · skip
        have q15 : ¬ 10 ≤ n11 := fun z => q15 ((nI_leI (a := 10) (b := n11) (by omega) (by omega)).mpr z)
        refine g_aload_n X dX1_branch_76 rfl (j := 2) rfl ?_
        refine g_dup X dX1_branch_77 rfl ?_
        refine i_get X F 31 rfl rfl fk_X1_60 dX1_branch_78 rfl ?_
        refine Go.gen (fun o16 => ?_)
        refine g_iconst X dX1_branch_81 (v := 1) (by decide) ?_
        refine g_iload_n X dX1_branch_82 rfl (j := 3) rfl ?_
        refine g_ishl X dX1_branch_83 ?_
        refine Go.top (v := .int 16) (by decide) ?_
        refine g_iconst X dX1_branch_84 (v := -1) (by decide) ?_
        refine g_ixor X dX1_branch_85 ?_
        refine Go.top (v := .int (-17)) (by decide) ?_
        refine g_iand X dX1_branch_86 ?_
        refine Go.gen (fun o17 => ?_)
        refine i_put X F I 31 rfl rfl rfl fk_X1_60 dX1_branch_87 rfl rfl (Nat.le_of_ble_eq_true rfl) trivial (fun M C F I K1 hC => ?_)
        have K := K.step K1 (by decide)
        refine g_aload_n X dX1_branch_90 rfl (j := 2) rfl ?_
        refine g_iload_n X dX1_branch_91 rfl (j := 3) rfl ?_
        refine g_callVV X (s_X4_passHour_31 l G F I 4 (by omega) (by omega) ) lk_X1_63 (F.1 31 rfl).2 (F.1 31 rfl).1 rfl rfl dX1_branch_92 (Nat.le_of_ble_eq_true rfl) ⟨by decide, by decide⟩ ⟨by decide, by decide⟩ (fun L M hp => ?_)
        obtain ⟨C, D, F, I, K1, hr⟩ := hp
        have K := K.step K1 (by decide)
        refine g_aload_n X dX1_branch_95 rfl (j := 1) rfl ?_
        refine g_aload_n X dX1_branch_96 rfl (j := 2) rfl ?_
        refine g_iload_n X dX1_branch_97 rfl (j := 3) rfl ?_
        refine g_iconst X dX1_branch_98 (v := 1) (by decide) ?_
        refine g_iadd X dX1_branch_99 ?_
        refine Go.top (v := .int 5) (by decide) ?_
        refine g_iload_n X dX1_branch_100 rfl (j := 4) rfl ?_
        refine g_lload X dX1_branch_101 (j := 5) rfl ?_
        refine g_bipush X dX1_branch_103 (v := 10) (by decide) ?_
        refine g_iload X dX1_branch_105 (j := 0) rfl ?_
        refine g_isub X dX1_branch_107 ?_
        refine Go.top (v := .int (nI (10 - n11))) (congrArg Value.int (pk_sub (a := 10) (b := n11) (by omega))) ?_
        refine g_i2l X dX1_branch_108 rfl ?_
        refine g_lmul X dX1_branch_109 ?_
        refine Go.genL (fun o18 => ?_)
        refine g_callSV X (s_X1_branch_5 l G F I p3 (by omega) (by omega) o18 ) lk_X1_43 rfl rfl dX1_branch_110 (Nat.le_of_ble_eq_true rfl) ⟨by decide, by decide⟩ ⟨by decide, by decide⟩ (fun L M hp => ?_)
        obtain ⟨C, D, F, I, K1, hr⟩ := hp
        have K := K.step K1 (by decide)
        exact g_vret X hrt dX1_branch_113 (by decide) (by decide) ⟨C, D, F, I, K, trivial⟩
set_option maxHeartbeats 4000000 in
set_option maxRecDepth 100000 in
theorem s_X1_branch_3 (l : Launch) (G : va_G) {cy : Nat → ClassId} {L : List Nat} {M : Nat → va_E} {a : Nat → Nat} {act : Nat → Bool} {C0 : Nat → Nat → Int32} {D0 : Nat → Nat → Int64} {R : Nat → Nat → Option Nat} (F : WI L M a act (ent cy a C0 D0 R)) (I : Inv C0) (p3 : Nat) (hp3a : 0 ≤ p3) (hp3b : p3 ≤ 7) (p4 : Int64)  : MV l G cy yX1_branch cX1_branch 7 none 7 0 0 [.ref (a 39), .ref (a 31), .int 3, .int (nI p3), .long p4] L M (fun L2 M2 => ∃ C2 D2, WI L2 M2 a act (ent cy a C2 D2 R) ∧ Inv C2 ∧ Kp [31, 33, 34, 35, 36, 40] C0 D0 C2 D2 ∧ True) := by
  refine MV.of (own := RX1) rfl (by decide) (Nat.le_of_ble_eq_true rfl) ?_
  intro p e s m below meth c A X hrt hnm
  obtain ⟨C, D, hC0, hD0, F, I, K⟩ : ∃ C D, C = C0 ∧ D = D0 ∧ WI L M a act (ent cy a C D R) ∧ Inv C ∧ Kp [31, 33, 34, 35, 36, 40] C0 D0 C D := ⟨C0, D0, rfl, rfl, F, I, Kp.rf⟩
  refine g_iload_n X dX1_branch_0 rfl (j := 2) rfl ?_
  refine g_iload_n X dX1_branch_1 rfl (j := 3) rfl ?_
  refine g_icmp_gt X dX1_branch_2 (tgt := 11) (by decide) (fun q1 => ?_) (fun q1 => ?_)
  · skip
    have q1 : p3 < 3 := (nI_ltI (a := p3) (b := 3) (by omega) (by omega)).mp q1
    refine g_aload_n X dX1_branch_11 rfl (j := 0) rfl ?_
    refine g_aload_n X dX1_branch_12 rfl (j := 1) rfl ?_
    refine g_iload_n X dX1_branch_13 rfl (j := 2) rfl ?_
    refine g_callVI X (s_X4_walkersInside_31 l G F I 3 (by omega) (by omega) ) lk_X1_47 (F.1 31 rfl).2 (F.1 31 rfl).1 rfl rfl dX1_branch_14 (Nat.le_of_ble_eq_true rfl) ⟨by decide, by decide⟩ ⟨by decide, by decide⟩ (fun r2 L M hp => ?_)
    obtain ⟨C, D, F, I, K1, hr⟩ := hp
    have K := K.step K1 (by decide)
    refine g_lload X dX1_branch_17 (j := 4) rfl ?_
    refine g_callVV X (s_X1_addInside l G F I r2 p4 ) lk_X1_51 (F.1 39 rfl).2 (F.1 39 rfl).1 rfl rfl dX1_branch_19 (Nat.le_of_ble_eq_true rfl) ⟨by decide, by decide⟩ ⟨by decide, by decide⟩ (fun L M hp => ?_)
    obtain ⟨C, D, F, I, K1, hr⟩ := hp
    have K := K.step K1 (by decide)
    exact g_vret X hrt dX1_branch_22 (by decide) (by decide) ⟨C, D, F, I, K, trivial⟩
  · skip
    have q1 : ¬ p3 < 3 := fun z => q1 ((nI_ltI (a := p3) (b := 3) (by omega) (by omega)).mpr z)
    refine g_iload_n X dX1_branch_5 rfl (j := 2) rfl ?_
    refine g_bipush X dX1_branch_6 (v := 7) (by decide) ?_
    refine g_icmp_le X dX1_branch_8 (tgt := 23) (by decide) (fun _ => ?_) (fun q => absurd (by decide) q)
    refine g_aload_n X dX1_branch_23 rfl (j := 0) rfl ?_
    refine i_get X F 39 rfl rfl fk_X1_23 dX1_branch_24 rfl ?_
    refine i_get X F 3 rfl rfl fk_X1_55 dX1_branch_27 rfl ?_
    refine Go.gen (fun o3 => ?_)
    refine g_istore X dX1_branch_30 (by decide) (lv2 := [(6, .int o3), (0, .ref (a 39)), (1, .ref (a 31)), (2, .int 3), (3, .int (nI p3)), (4, .long p4)]) rfl ?_
    refine g_iload X dX1_branch_32 (j := 0) rfl ?_
    refine g_if_le X dX1_branch_34 (tgt := 69) (by decide) (fun q4 => ?_) (fun q4 => ?_)
    · skip
      have q4t : o3.toInt ≤ (0 : Int32).toInt := Int32.le_iff_toInt_le.mp q4
      have q4k : (0 : Int32).toInt = 0 := (by decide)
      have q4b := Int32.toInt_lt o3
      refine g_iload X dX1_branch_69 (j := 0) rfl ?_
      refine g_bipush X dX1_branch_71 (v := 10) (by decide) ?_
      refine g_icmp_ge X dX1_branch_73 (tgt := 113) (by decide) (fun q5 => ?_) (fun q5 => ?_)
      · skip
        have q5t : (10 : Int32).toInt ≤ o3.toInt := Int32.le_iff_toInt_le.mp q5
        have q5k : (10 : Int32).toInt = 10 := (by decide)
        have q5b := Int32.toInt_lt o3
        obtain ⟨n6, hn6, rfl⟩ := nI_of (x := o3) (fun z => by have z2 := Int32.lt_iff_toInt_lt.mp z; have z3 : (0 : Int32).toInt = 0 := (by decide); omega)
        rw [nI_toInt (by omega)] at q5t
        have tn6 := nI_toInt (n := n6) (by omega)
        exact g_vret X hrt dX1_branch_113 (by decide) (by decide) ⟨C, D, F, I, K, trivial⟩
      · skip
        have q5t : ¬ (10 : Int32).toInt ≤ o3.toInt := fun z => q5 (Int32.le_iff_toInt_le.mpr z)
        have q5k : (10 : Int32).toInt = 10 := (by decide)
        have q5b := Int32.toInt_lt o3
        refine g_aload_n X dX1_branch_76 rfl (j := 2) rfl ?_
        refine g_dup X dX1_branch_77 rfl ?_
        refine i_get X F 31 rfl rfl fk_X1_60 dX1_branch_78 rfl ?_
        refine Go.gen (fun o7 => ?_)
        refine g_iconst X dX1_branch_81 (v := 1) (by decide) ?_
        refine g_iload_n X dX1_branch_82 rfl (j := 3) rfl ?_
        refine g_ishl X dX1_branch_83 ?_
        refine Go.top (v := .int 8) (by decide) ?_
        refine g_iconst X dX1_branch_84 (v := -1) (by decide) ?_
        refine g_ixor X dX1_branch_85 ?_
        refine Go.top (v := .int (-9)) (by decide) ?_
        refine g_iand X dX1_branch_86 ?_
        refine Go.gen (fun o8 => ?_)
        refine i_put X F I 31 rfl rfl rfl fk_X1_60 dX1_branch_87 rfl rfl (Nat.le_of_ble_eq_true rfl) trivial (fun M C F I K1 hC => ?_)
        have K := K.step K1 (by decide)
        refine g_aload_n X dX1_branch_90 rfl (j := 2) rfl ?_
        refine g_iload_n X dX1_branch_91 rfl (j := 3) rfl ?_
        refine g_callVV X (s_X4_passHour_31 l G F I 3 (by omega) (by omega) ) lk_X1_63 (F.1 31 rfl).2 (F.1 31 rfl).1 rfl rfl dX1_branch_92 (Nat.le_of_ble_eq_true rfl) ⟨by decide, by decide⟩ ⟨by decide, by decide⟩ (fun L M hp => ?_)
        obtain ⟨C, D, F, I, K1, hr⟩ := hp
        have K := K.step K1 (by decide)
        refine g_aload_n X dX1_branch_95 rfl (j := 1) rfl ?_
        refine g_aload_n X dX1_branch_96 rfl (j := 2) rfl ?_
        refine g_iload_n X dX1_branch_97 rfl (j := 3) rfl ?_
        refine g_iconst X dX1_branch_98 (v := 1) (by decide) ?_
        refine g_iadd X dX1_branch_99 ?_
        refine Go.top (v := .int 4) (by decide) ?_
        refine g_iload_n X dX1_branch_100 rfl (j := 4) rfl ?_
        refine g_lload X dX1_branch_101 (j := 5) rfl ?_
        refine g_bipush X dX1_branch_103 (v := 10) (by decide) ?_
        refine g_iload X dX1_branch_105 (j := 0) rfl ?_
        refine g_isub X dX1_branch_107 ?_
        refine Go.gen (fun o9 => ?_)
        refine g_i2l X dX1_branch_108 rfl ?_
        refine g_lmul X dX1_branch_109 ?_
        refine Go.genL (fun o10 => ?_)
        refine g_callSV X (s_X1_branch_4 l G F I p3 (by omega) (by omega) o10 ) lk_X1_43 rfl rfl dX1_branch_110 (Nat.le_of_ble_eq_true rfl) ⟨by decide, by decide⟩ ⟨by decide, by decide⟩ (fun L M hp => ?_)
        obtain ⟨C, D, F, I, K1, hr⟩ := hp
        have K := K.step K1 (by decide)
        exact g_vret X hrt dX1_branch_113 (by decide) (by decide) ⟨C, D, F, I, K, trivial⟩
    · skip
      have q4t : ¬ o3.toInt ≤ (0 : Int32).toInt := fun z => q4 (Int32.le_iff_toInt_le.mpr z)
      have q4k : (0 : Int32).toInt = 0 := (by decide)
      have q4b := Int32.toInt_lt o3
      obtain ⟨n11, hn11, rfl⟩ := nI_of (x := o3) (fun z => by have z2 := Int32.lt_iff_toInt_lt.mp z; have z3 : (0 : Int32).toInt = 0 := (by decide); omega)
      rw [nI_toInt (by omega)] at q4t
      have tn11 := nI_toInt (n := n11) (by omega)
      refine g_aload_n X dX1_branch_37 rfl (j := 2) rfl ?_
      refine g_dup X dX1_branch_38 rfl ?_
      refine i_get X F 31 rfl rfl fk_X1_60 dX1_branch_39 rfl ?_
      refine Go.gen (fun o12 => ?_)
      refine g_iconst X dX1_branch_42 (v := 1) (by decide) ?_
      refine g_iload_n X dX1_branch_43 rfl (j := 3) rfl ?_
      refine g_ishl X dX1_branch_44 ?_
      refine Go.top (v := .int 8) (by decide) ?_
      refine g_ior X dX1_branch_45 ?_
      refine Go.gen (fun o13 => ?_)
      refine i_put X F I 31 rfl rfl rfl fk_X1_60 dX1_branch_46 rfl rfl (Nat.le_of_ble_eq_true rfl) trivial (fun M C F I K1 hC => ?_)
      have K := K.step K1 (by decide)
      refine g_aload_n X dX1_branch_49 rfl (j := 2) rfl ?_
      refine g_iload_n X dX1_branch_50 rfl (j := 3) rfl ?_
      refine g_callVV X (s_X4_passHour_31 l G F I 3 (by omega) (by omega) ) lk_X1_63 (F.1 31 rfl).2 (F.1 31 rfl).1 rfl rfl dX1_branch_51 (Nat.le_of_ble_eq_true rfl) ⟨by decide, by decide⟩ ⟨by decide, by decide⟩ (fun L M hp => ?_)
      obtain ⟨C, D, F, I, K1, hr⟩ := hp
      have K := K.step K1 (by decide)
      refine g_aload_n X dX1_branch_54 rfl (j := 1) rfl ?_
      refine g_aload_n X dX1_branch_55 rfl (j := 2) rfl ?_
      refine g_iload_n X dX1_branch_56 rfl (j := 3) rfl ?_
      refine g_iconst X dX1_branch_57 (v := 1) (by decide) ?_
      refine g_iadd X dX1_branch_58 ?_
      refine Go.top (v := .int 4) (by decide) ?_
      refine g_iload_n X dX1_branch_59 rfl (j := 4) rfl ?_
      refine g_lload X dX1_branch_60 (j := 5) rfl ?_
      refine g_iload X dX1_branch_62 (j := 0) rfl ?_
      refine g_i2l X dX1_branch_64 rfl ?_
      refine g_lmul X dX1_branch_65 ?_
      refine Go.genL (fun o14 => ?_)
      refine g_callSV X (s_X1_branch_4 l G F I p3 (by omega) (by omega) o14 ) lk_X1_43 rfl rfl dX1_branch_66 (Nat.le_of_ble_eq_true rfl) ⟨by decide, by decide⟩ ⟨by decide, by decide⟩ (fun L M hp => ?_)
      obtain ⟨C, D, F, I, K1, hr⟩ := hp
      have K := K.step K1 (by decide)
      refine g_iload X dX1_branch_69 (j := 0) rfl ?_
      refine g_bipush X dX1_branch_71 (v := 10) (by decide) ?_
      refine g_icmp_ge X dX1_branch_73 (tgt := 113) (by decide) (fun q15 => ?_) (fun q15 => ?_)
      · skip
        have q15 : 10 ≤ n11 := (nI_leI (a := 10) (b := n11) (by omega) (by omega)).mp q15
        exact g_vret X hrt dX1_branch_113 (by decide) (by decide) ⟨C, D, F, I, K, trivial⟩
      · skip
        have q15 : ¬ 10 ≤ n11 := fun z => q15 ((nI_leI (a := 10) (b := n11) (by omega) (by omega)).mpr z)
        refine g_aload_n X dX1_branch_76 rfl (j := 2) rfl ?_
        refine g_dup X dX1_branch_77 rfl ?_
        refine i_get X F 31 rfl rfl fk_X1_60 dX1_branch_78 rfl ?_
        refine Go.gen (fun o16 => ?_)
        refine g_iconst X dX1_branch_81 (v := 1) (by decide) ?_
        refine g_iload_n X dX1_branch_82 rfl (j := 3) rfl ?_
        refine g_ishl X dX1_branch_83 ?_
        refine Go.top (v := .int 8) (by decide) ?_
        refine g_iconst X dX1_branch_84 (v := -1) (by decide) ?_
        refine g_ixor X dX1_branch_85 ?_
        refine Go.top (v := .int (-9)) (by decide) ?_
        refine g_iand X dX1_branch_86 ?_
        refine Go.gen (fun o17 => ?_)
        refine i_put X F I 31 rfl rfl rfl fk_X1_60 dX1_branch_87 rfl rfl (Nat.le_of_ble_eq_true rfl) trivial (fun M C F I K1 hC => ?_)
        have K := K.step K1 (by decide)
        refine g_aload_n X dX1_branch_90 rfl (j := 2) rfl ?_
        refine g_iload_n X dX1_branch_91 rfl (j := 3) rfl ?_
        refine g_callVV X (s_X4_passHour_31 l G F I 3 (by omega) (by omega) ) lk_X1_63 (F.1 31 rfl).2 (F.1 31 rfl).1 rfl rfl dX1_branch_92 (Nat.le_of_ble_eq_true rfl) ⟨by decide, by decide⟩ ⟨by decide, by decide⟩ (fun L M hp => ?_)
        obtain ⟨C, D, F, I, K1, hr⟩ := hp
        have K := K.step K1 (by decide)
        refine g_aload_n X dX1_branch_95 rfl (j := 1) rfl ?_
        refine g_aload_n X dX1_branch_96 rfl (j := 2) rfl ?_
        refine g_iload_n X dX1_branch_97 rfl (j := 3) rfl ?_
        refine g_iconst X dX1_branch_98 (v := 1) (by decide) ?_
        refine g_iadd X dX1_branch_99 ?_
        refine Go.top (v := .int 4) (by decide) ?_
        refine g_iload_n X dX1_branch_100 rfl (j := 4) rfl ?_
        refine g_lload X dX1_branch_101 (j := 5) rfl ?_
        refine g_bipush X dX1_branch_103 (v := 10) (by decide) ?_
        refine g_iload X dX1_branch_105 (j := 0) rfl ?_
        refine g_isub X dX1_branch_107 ?_
        refine Go.top (v := .int (nI (10 - n11))) (congrArg Value.int (pk_sub (a := 10) (b := n11) (by omega))) ?_
        refine g_i2l X dX1_branch_108 rfl ?_
        refine g_lmul X dX1_branch_109 ?_
        refine Go.genL (fun o18 => ?_)
        refine g_callSV X (s_X1_branch_4 l G F I p3 (by omega) (by omega) o18 ) lk_X1_43 rfl rfl dX1_branch_110 (Nat.le_of_ble_eq_true rfl) ⟨by decide, by decide⟩ ⟨by decide, by decide⟩ (fun L M hp => ?_)
        obtain ⟨C, D, F, I, K1, hr⟩ := hp
        have K := K.step K1 (by decide)
        exact g_vret X hrt dX1_branch_113 (by decide) (by decide) ⟨C, D, F, I, K, trivial⟩
set_option maxHeartbeats 4000000 in
set_option maxRecDepth 100000 in
theorem s_X1_branch_2 (l : Launch) (G : va_G) {cy : Nat → ClassId} {L : List Nat} {M : Nat → va_E} {a : Nat → Nat} {act : Nat → Bool} {C0 : Nat → Nat → Int32} {D0 : Nat → Nat → Int64} {R : Nat → Nat → Option Nat} (F : WI L M a act (ent cy a C0 D0 R)) (I : Inv C0) (p3 : Nat) (hp3a : 0 ≤ p3) (hp3b : p3 ≤ 7) (p4 : Int64)  : MV l G cy yX1_branch cX1_branch 7 none 8 0 0 [.ref (a 39), .ref (a 31), .int 2, .int (nI p3), .long p4] L M (fun L2 M2 => ∃ C2 D2, WI L2 M2 a act (ent cy a C2 D2 R) ∧ Inv C2 ∧ Kp [31, 33, 34, 35, 36, 40] C0 D0 C2 D2 ∧ True) := by
  refine MV.of (own := RX1) rfl (by decide) (Nat.le_of_ble_eq_true rfl) ?_
  intro p e s m below meth c A X hrt hnm
  obtain ⟨C, D, hC0, hD0, F, I, K⟩ : ∃ C D, C = C0 ∧ D = D0 ∧ WI L M a act (ent cy a C D R) ∧ Inv C ∧ Kp [31, 33, 34, 35, 36, 40] C0 D0 C D := ⟨C0, D0, rfl, rfl, F, I, Kp.rf⟩
  refine g_iload_n X dX1_branch_0 rfl (j := 2) rfl ?_
  refine g_iload_n X dX1_branch_1 rfl (j := 3) rfl ?_
  refine g_icmp_gt X dX1_branch_2 (tgt := 11) (by decide) (fun q1 => ?_) (fun q1 => ?_)
  · skip
    have q1 : p3 < 2 := (nI_ltI (a := p3) (b := 2) (by omega) (by omega)).mp q1
    refine g_aload_n X dX1_branch_11 rfl (j := 0) rfl ?_
    refine g_aload_n X dX1_branch_12 rfl (j := 1) rfl ?_
    refine g_iload_n X dX1_branch_13 rfl (j := 2) rfl ?_
    refine g_callVI X (s_X4_walkersInside_31 l G F I 2 (by omega) (by omega) ) lk_X1_47 (F.1 31 rfl).2 (F.1 31 rfl).1 rfl rfl dX1_branch_14 (Nat.le_of_ble_eq_true rfl) ⟨by decide, by decide⟩ ⟨by decide, by decide⟩ (fun r2 L M hp => ?_)
    obtain ⟨C, D, F, I, K1, hr⟩ := hp
    have K := K.step K1 (by decide)
    refine g_lload X dX1_branch_17 (j := 4) rfl ?_
    refine g_callVV X (s_X1_addInside l G F I r2 p4 ) lk_X1_51 (F.1 39 rfl).2 (F.1 39 rfl).1 rfl rfl dX1_branch_19 (Nat.le_of_ble_eq_true rfl) ⟨by decide, by decide⟩ ⟨by decide, by decide⟩ (fun L M hp => ?_)
    obtain ⟨C, D, F, I, K1, hr⟩ := hp
    have K := K.step K1 (by decide)
    exact g_vret X hrt dX1_branch_22 (by decide) (by decide) ⟨C, D, F, I, K, trivial⟩
  · skip
    have q1 : ¬ p3 < 2 := fun z => q1 ((nI_ltI (a := p3) (b := 2) (by omega) (by omega)).mpr z)
    refine g_iload_n X dX1_branch_5 rfl (j := 2) rfl ?_
    refine g_bipush X dX1_branch_6 (v := 7) (by decide) ?_
    refine g_icmp_le X dX1_branch_8 (tgt := 23) (by decide) (fun _ => ?_) (fun q => absurd (by decide) q)
    refine g_aload_n X dX1_branch_23 rfl (j := 0) rfl ?_
    refine i_get X F 39 rfl rfl fk_X1_23 dX1_branch_24 rfl ?_
    refine i_get X F 3 rfl rfl fk_X1_55 dX1_branch_27 rfl ?_
    refine Go.gen (fun o3 => ?_)
    refine g_istore X dX1_branch_30 (by decide) (lv2 := [(6, .int o3), (0, .ref (a 39)), (1, .ref (a 31)), (2, .int 2), (3, .int (nI p3)), (4, .long p4)]) rfl ?_
    refine g_iload X dX1_branch_32 (j := 0) rfl ?_
    refine g_if_le X dX1_branch_34 (tgt := 69) (by decide) (fun q4 => ?_) (fun q4 => ?_)
    · skip
      have q4t : o3.toInt ≤ (0 : Int32).toInt := Int32.le_iff_toInt_le.mp q4
      have q4k : (0 : Int32).toInt = 0 := (by decide)
      have q4b := Int32.toInt_lt o3
      refine g_iload X dX1_branch_69 (j := 0) rfl ?_
      refine g_bipush X dX1_branch_71 (v := 10) (by decide) ?_
      refine g_icmp_ge X dX1_branch_73 (tgt := 113) (by decide) (fun q5 => ?_) (fun q5 => ?_)
      · skip
        have q5t : (10 : Int32).toInt ≤ o3.toInt := Int32.le_iff_toInt_le.mp q5
        have q5k : (10 : Int32).toInt = 10 := (by decide)
        have q5b := Int32.toInt_lt o3
        obtain ⟨n6, hn6, rfl⟩ := nI_of (x := o3) (fun z => by have z2 := Int32.lt_iff_toInt_lt.mp z; have z3 : (0 : Int32).toInt = 0 := (by decide); omega)
        rw [nI_toInt (by omega)] at q5t
        have tn6 := nI_toInt (n := n6) (by omega)
        exact g_vret X hrt dX1_branch_113 (by decide) (by decide) ⟨C, D, F, I, K, trivial⟩
      · skip
        have q5t : ¬ (10 : Int32).toInt ≤ o3.toInt := fun z => q5 (Int32.le_iff_toInt_le.mpr z)
        have q5k : (10 : Int32).toInt = 10 := (by decide)
        have q5b := Int32.toInt_lt o3
        refine g_aload_n X dX1_branch_76 rfl (j := 2) rfl ?_
        refine g_dup X dX1_branch_77 rfl ?_
        refine i_get X F 31 rfl rfl fk_X1_60 dX1_branch_78 rfl ?_
        refine Go.gen (fun o7 => ?_)
        refine g_iconst X dX1_branch_81 (v := 1) (by decide) ?_
        refine g_iload_n X dX1_branch_82 rfl (j := 3) rfl ?_
        refine g_ishl X dX1_branch_83 ?_
        refine Go.top (v := .int 4) (by decide) ?_
        refine g_iconst X dX1_branch_84 (v := -1) (by decide) ?_
        refine g_ixor X dX1_branch_85 ?_
        refine Go.top (v := .int (-5)) (by decide) ?_
        refine g_iand X dX1_branch_86 ?_
        refine Go.gen (fun o8 => ?_)
        refine i_put X F I 31 rfl rfl rfl fk_X1_60 dX1_branch_87 rfl rfl (Nat.le_of_ble_eq_true rfl) trivial (fun M C F I K1 hC => ?_)
        have K := K.step K1 (by decide)
        refine g_aload_n X dX1_branch_90 rfl (j := 2) rfl ?_
        refine g_iload_n X dX1_branch_91 rfl (j := 3) rfl ?_
        refine g_callVV X (s_X4_passHour_31 l G F I 2 (by omega) (by omega) ) lk_X1_63 (F.1 31 rfl).2 (F.1 31 rfl).1 rfl rfl dX1_branch_92 (Nat.le_of_ble_eq_true rfl) ⟨by decide, by decide⟩ ⟨by decide, by decide⟩ (fun L M hp => ?_)
        obtain ⟨C, D, F, I, K1, hr⟩ := hp
        have K := K.step K1 (by decide)
        refine g_aload_n X dX1_branch_95 rfl (j := 1) rfl ?_
        refine g_aload_n X dX1_branch_96 rfl (j := 2) rfl ?_
        refine g_iload_n X dX1_branch_97 rfl (j := 3) rfl ?_
        refine g_iconst X dX1_branch_98 (v := 1) (by decide) ?_
        refine g_iadd X dX1_branch_99 ?_
        refine Go.top (v := .int 3) (by decide) ?_
        refine g_iload_n X dX1_branch_100 rfl (j := 4) rfl ?_
        refine g_lload X dX1_branch_101 (j := 5) rfl ?_
        refine g_bipush X dX1_branch_103 (v := 10) (by decide) ?_
        refine g_iload X dX1_branch_105 (j := 0) rfl ?_
        refine g_isub X dX1_branch_107 ?_
        refine Go.gen (fun o9 => ?_)
        refine g_i2l X dX1_branch_108 rfl ?_
        refine g_lmul X dX1_branch_109 ?_
        refine Go.genL (fun o10 => ?_)
        refine g_callSV X (s_X1_branch_3 l G F I p3 (by omega) (by omega) o10 ) lk_X1_43 rfl rfl dX1_branch_110 (Nat.le_of_ble_eq_true rfl) ⟨by decide, by decide⟩ ⟨by decide, by decide⟩ (fun L M hp => ?_)
        obtain ⟨C, D, F, I, K1, hr⟩ := hp
        have K := K.step K1 (by decide)
        exact g_vret X hrt dX1_branch_113 (by decide) (by decide) ⟨C, D, F, I, K, trivial⟩
    · skip
      have q4t : ¬ o3.toInt ≤ (0 : Int32).toInt := fun z => q4 (Int32.le_iff_toInt_le.mpr z)
      have q4k : (0 : Int32).toInt = 0 := (by decide)
      have q4b := Int32.toInt_lt o3
      obtain ⟨n11, hn11, rfl⟩ := nI_of (x := o3) (fun z => by have z2 := Int32.lt_iff_toInt_lt.mp z; have z3 : (0 : Int32).toInt = 0 := (by decide); omega)
      rw [nI_toInt (by omega)] at q4t
      have tn11 := nI_toInt (n := n11) (by omega)
      refine g_aload_n X dX1_branch_37 rfl (j := 2) rfl ?_
      refine g_dup X dX1_branch_38 rfl ?_
      refine i_get X F 31 rfl rfl fk_X1_60 dX1_branch_39 rfl ?_
      refine Go.gen (fun o12 => ?_)
      refine g_iconst X dX1_branch_42 (v := 1) (by decide) ?_
      refine g_iload_n X dX1_branch_43 rfl (j := 3) rfl ?_
      refine g_ishl X dX1_branch_44 ?_
      refine Go.top (v := .int 4) (by decide) ?_
      refine g_ior X dX1_branch_45 ?_
      refine Go.gen (fun o13 => ?_)
      refine i_put X F I 31 rfl rfl rfl fk_X1_60 dX1_branch_46 rfl rfl (Nat.le_of_ble_eq_true rfl) trivial (fun M C F I K1 hC => ?_)
      have K := K.step K1 (by decide)
      refine g_aload_n X dX1_branch_49 rfl (j := 2) rfl ?_
      refine g_iload_n X dX1_branch_50 rfl (j := 3) rfl ?_
      refine g_callVV X (s_X4_passHour_31 l G F I 2 (by omega) (by omega) ) lk_X1_63 (F.1 31 rfl).2 (F.1 31 rfl).1 rfl rfl dX1_branch_51 (Nat.le_of_ble_eq_true rfl) ⟨by decide, by decide⟩ ⟨by decide, by decide⟩ (fun L M hp => ?_)
      obtain ⟨C, D, F, I, K1, hr⟩ := hp
      have K := K.step K1 (by decide)
      refine g_aload_n X dX1_branch_54 rfl (j := 1) rfl ?_
      refine g_aload_n X dX1_branch_55 rfl (j := 2) rfl ?_
      refine g_iload_n X dX1_branch_56 rfl (j := 3) rfl ?_
      refine g_iconst X dX1_branch_57 (v := 1) (by decide) ?_
      refine g_iadd X dX1_branch_58 ?_
      refine Go.top (v := .int 3) (by decide) ?_
      refine g_iload_n X dX1_branch_59 rfl (j := 4) rfl ?_
      refine g_lload X dX1_branch_60 (j := 5) rfl ?_
      refine g_iload X dX1_branch_62 (j := 0) rfl ?_
      refine g_i2l X dX1_branch_64 rfl ?_
      refine g_lmul X dX1_branch_65 ?_
      refine Go.genL (fun o14 => ?_)
      refine g_callSV X (s_X1_branch_3 l G F I p3 (by omega) (by omega) o14 ) lk_X1_43 rfl rfl dX1_branch_66 (Nat.le_of_ble_eq_true rfl) ⟨by decide, by decide⟩ ⟨by decide, by decide⟩ (fun L M hp => ?_)
      obtain ⟨C, D, F, I, K1, hr⟩ := hp
      have K := K.step K1 (by decide)
      refine g_iload X dX1_branch_69 (j := 0) rfl ?_
      refine g_bipush X dX1_branch_71 (v := 10) (by decide) ?_
      refine g_icmp_ge X dX1_branch_73 (tgt := 113) (by decide) (fun q15 => ?_) (fun q15 => ?_)
      · skip
        have q15 : 10 ≤ n11 := (nI_leI (a := 10) (b := n11) (by omega) (by omega)).mp q15
        exact g_vret X hrt dX1_branch_113 (by decide) (by decide) ⟨C, D, F, I, K, trivial⟩
      · skip
        have q15 : ¬ 10 ≤ n11 := fun z => q15 ((nI_leI (a := 10) (b := n11) (by omega) (by omega)).mpr z)
        refine g_aload_n X dX1_branch_76 rfl (j := 2) rfl ?_
        refine g_dup X dX1_branch_77 rfl ?_
        refine i_get X F 31 rfl rfl fk_X1_60 dX1_branch_78 rfl ?_
        refine Go.gen (fun o16 => ?_)
        refine g_iconst X dX1_branch_81 (v := 1) (by decide) ?_
        refine g_iload_n X dX1_branch_82 rfl (j := 3) rfl ?_
        refine g_ishl X dX1_branch_83 ?_
        refine Go.top (v := .int 4) (by decide) ?_
        refine g_iconst X dX1_branch_84 (v := -1) (by decide) ?_
        refine g_ixor X dX1_branch_85 ?_
        refine Go.top (v := .int (-5)) (by decide) ?_
        refine g_iand X dX1_branch_86 ?_
        refine Go.gen (fun o17 => ?_)
        refine i_put X F I 31 rfl rfl rfl fk_X1_60 dX1_branch_87 rfl rfl (Nat.le_of_ble_eq_true rfl) trivial (fun M C F I K1 hC => ?_)
        have K := K.step K1 (by decide)
        refine g_aload_n X dX1_branch_90 rfl (j := 2) rfl ?_
        refine g_iload_n X dX1_branch_91 rfl (j := 3) rfl ?_
        refine g_callVV X (s_X4_passHour_31 l G F I 2 (by omega) (by omega) ) lk_X1_63 (F.1 31 rfl).2 (F.1 31 rfl).1 rfl rfl dX1_branch_92 (Nat.le_of_ble_eq_true rfl) ⟨by decide, by decide⟩ ⟨by decide, by decide⟩ (fun L M hp => ?_)
        obtain ⟨C, D, F, I, K1, hr⟩ := hp
        have K := K.step K1 (by decide)
        refine g_aload_n X dX1_branch_95 rfl (j := 1) rfl ?_
        refine g_aload_n X dX1_branch_96 rfl (j := 2) rfl ?_
        refine g_iload_n X dX1_branch_97 rfl (j := 3) rfl ?_
        refine g_iconst X dX1_branch_98 (v := 1) (by decide) ?_
        refine g_iadd X dX1_branch_99 ?_
        refine Go.top (v := .int 3) (by decide) ?_
        refine g_iload_n X dX1_branch_100 rfl (j := 4) rfl ?_
        refine g_lload X dX1_branch_101 (j := 5) rfl ?_
        refine g_bipush X dX1_branch_103 (v := 10) (by decide) ?_
        refine g_iload X dX1_branch_105 (j := 0) rfl ?_
        refine g_isub X dX1_branch_107 ?_
        refine Go.top (v := .int (nI (10 - n11))) (congrArg Value.int (pk_sub (a := 10) (b := n11) (by omega))) ?_
        refine g_i2l X dX1_branch_108 rfl ?_
        refine g_lmul X dX1_branch_109 ?_
        refine Go.genL (fun o18 => ?_)
        refine g_callSV X (s_X1_branch_3 l G F I p3 (by omega) (by omega) o18 ) lk_X1_43 rfl rfl dX1_branch_110 (Nat.le_of_ble_eq_true rfl) ⟨by decide, by decide⟩ ⟨by decide, by decide⟩ (fun L M hp => ?_)
        obtain ⟨C, D, F, I, K1, hr⟩ := hp
        have K := K.step K1 (by decide)
        exact g_vret X hrt dX1_branch_113 (by decide) (by decide) ⟨C, D, F, I, K, trivial⟩
set_option maxHeartbeats 4000000 in
set_option maxRecDepth 100000 in
theorem s_X1_branch_1 (l : Launch) (G : va_G) {cy : Nat → ClassId} {L : List Nat} {M : Nat → va_E} {a : Nat → Nat} {act : Nat → Bool} {C0 : Nat → Nat → Int32} {D0 : Nat → Nat → Int64} {R : Nat → Nat → Option Nat} (F : WI L M a act (ent cy a C0 D0 R)) (I : Inv C0) (p3 : Nat) (hp3a : 0 ≤ p3) (hp3b : p3 ≤ 7) (p4 : Int64)  : MV l G cy yX1_branch cX1_branch 7 none 9 0 0 [.ref (a 39), .ref (a 31), .int 1, .int (nI p3), .long p4] L M (fun L2 M2 => ∃ C2 D2, WI L2 M2 a act (ent cy a C2 D2 R) ∧ Inv C2 ∧ Kp [31, 33, 34, 35, 36, 40] C0 D0 C2 D2 ∧ True) := by
  refine MV.of (own := RX1) rfl (by decide) (Nat.le_of_ble_eq_true rfl) ?_
  intro p e s m below meth c A X hrt hnm
  obtain ⟨C, D, hC0, hD0, F, I, K⟩ : ∃ C D, C = C0 ∧ D = D0 ∧ WI L M a act (ent cy a C D R) ∧ Inv C ∧ Kp [31, 33, 34, 35, 36, 40] C0 D0 C D := ⟨C0, D0, rfl, rfl, F, I, Kp.rf⟩
  refine g_iload_n X dX1_branch_0 rfl (j := 2) rfl ?_
  refine g_iload_n X dX1_branch_1 rfl (j := 3) rfl ?_
  refine g_icmp_gt X dX1_branch_2 (tgt := 11) (by decide) (fun q1 => ?_) (fun q1 => ?_)
  · skip
    have q1 : p3 < 1 := (nI_ltI (a := p3) (b := 1) (by omega) (by omega)).mp q1
    refine g_aload_n X dX1_branch_11 rfl (j := 0) rfl ?_
    refine g_aload_n X dX1_branch_12 rfl (j := 1) rfl ?_
    refine g_iload_n X dX1_branch_13 rfl (j := 2) rfl ?_
    refine g_callVI X (s_X4_walkersInside_31 l G F I 1 (by omega) (by omega) ) lk_X1_47 (F.1 31 rfl).2 (F.1 31 rfl).1 rfl rfl dX1_branch_14 (Nat.le_of_ble_eq_true rfl) ⟨by decide, by decide⟩ ⟨by decide, by decide⟩ (fun r2 L M hp => ?_)
    obtain ⟨C, D, F, I, K1, hr⟩ := hp
    have K := K.step K1 (by decide)
    refine g_lload X dX1_branch_17 (j := 4) rfl ?_
    refine g_callVV X (s_X1_addInside l G F I r2 p4 ) lk_X1_51 (F.1 39 rfl).2 (F.1 39 rfl).1 rfl rfl dX1_branch_19 (Nat.le_of_ble_eq_true rfl) ⟨by decide, by decide⟩ ⟨by decide, by decide⟩ (fun L M hp => ?_)
    obtain ⟨C, D, F, I, K1, hr⟩ := hp
    have K := K.step K1 (by decide)
    exact g_vret X hrt dX1_branch_22 (by decide) (by decide) ⟨C, D, F, I, K, trivial⟩
  · skip
    have q1 : ¬ p3 < 1 := fun z => q1 ((nI_ltI (a := p3) (b := 1) (by omega) (by omega)).mpr z)
    refine g_iload_n X dX1_branch_5 rfl (j := 2) rfl ?_
    refine g_bipush X dX1_branch_6 (v := 7) (by decide) ?_
    refine g_icmp_le X dX1_branch_8 (tgt := 23) (by decide) (fun _ => ?_) (fun q => absurd (by decide) q)
    refine g_aload_n X dX1_branch_23 rfl (j := 0) rfl ?_
    refine i_get X F 39 rfl rfl fk_X1_23 dX1_branch_24 rfl ?_
    refine i_get X F 3 rfl rfl fk_X1_55 dX1_branch_27 rfl ?_
    refine Go.gen (fun o3 => ?_)
    refine g_istore X dX1_branch_30 (by decide) (lv2 := [(6, .int o3), (0, .ref (a 39)), (1, .ref (a 31)), (2, .int 1), (3, .int (nI p3)), (4, .long p4)]) rfl ?_
    refine g_iload X dX1_branch_32 (j := 0) rfl ?_
    refine g_if_le X dX1_branch_34 (tgt := 69) (by decide) (fun q4 => ?_) (fun q4 => ?_)
    · skip
      have q4t : o3.toInt ≤ (0 : Int32).toInt := Int32.le_iff_toInt_le.mp q4
      have q4k : (0 : Int32).toInt = 0 := (by decide)
      have q4b := Int32.toInt_lt o3
      refine g_iload X dX1_branch_69 (j := 0) rfl ?_
      refine g_bipush X dX1_branch_71 (v := 10) (by decide) ?_
      refine g_icmp_ge X dX1_branch_73 (tgt := 113) (by decide) (fun q5 => ?_) (fun q5 => ?_)
      · skip
        have q5t : (10 : Int32).toInt ≤ o3.toInt := Int32.le_iff_toInt_le.mp q5
        have q5k : (10 : Int32).toInt = 10 := (by decide)
        have q5b := Int32.toInt_lt o3
        obtain ⟨n6, hn6, rfl⟩ := nI_of (x := o3) (fun z => by have z2 := Int32.lt_iff_toInt_lt.mp z; have z3 : (0 : Int32).toInt = 0 := (by decide); omega)
        rw [nI_toInt (by omega)] at q5t
        have tn6 := nI_toInt (n := n6) (by omega)
        exact g_vret X hrt dX1_branch_113 (by decide) (by decide) ⟨C, D, F, I, K, trivial⟩
      · skip
        have q5t : ¬ (10 : Int32).toInt ≤ o3.toInt := fun z => q5 (Int32.le_iff_toInt_le.mpr z)
        have q5k : (10 : Int32).toInt = 10 := (by decide)
        have q5b := Int32.toInt_lt o3
        refine g_aload_n X dX1_branch_76 rfl (j := 2) rfl ?_
        refine g_dup X dX1_branch_77 rfl ?_
        refine i_get X F 31 rfl rfl fk_X1_60 dX1_branch_78 rfl ?_
        refine Go.gen (fun o7 => ?_)
        refine g_iconst X dX1_branch_81 (v := 1) (by decide) ?_
        refine g_iload_n X dX1_branch_82 rfl (j := 3) rfl ?_
        refine g_ishl X dX1_branch_83 ?_
        refine Go.top (v := .int 2) (by decide) ?_
        refine g_iconst X dX1_branch_84 (v := -1) (by decide) ?_
        refine g_ixor X dX1_branch_85 ?_
        refine Go.top (v := .int (-3)) (by decide) ?_
        refine g_iand X dX1_branch_86 ?_
        refine Go.gen (fun o8 => ?_)
        refine i_put X F I 31 rfl rfl rfl fk_X1_60 dX1_branch_87 rfl rfl (Nat.le_of_ble_eq_true rfl) trivial (fun M C F I K1 hC => ?_)
        have K := K.step K1 (by decide)
        refine g_aload_n X dX1_branch_90 rfl (j := 2) rfl ?_
        refine g_iload_n X dX1_branch_91 rfl (j := 3) rfl ?_
        refine g_callVV X (s_X4_passHour_31 l G F I 1 (by omega) (by omega) ) lk_X1_63 (F.1 31 rfl).2 (F.1 31 rfl).1 rfl rfl dX1_branch_92 (Nat.le_of_ble_eq_true rfl) ⟨by decide, by decide⟩ ⟨by decide, by decide⟩ (fun L M hp => ?_)
        obtain ⟨C, D, F, I, K1, hr⟩ := hp
        have K := K.step K1 (by decide)
        refine g_aload_n X dX1_branch_95 rfl (j := 1) rfl ?_
        refine g_aload_n X dX1_branch_96 rfl (j := 2) rfl ?_
        refine g_iload_n X dX1_branch_97 rfl (j := 3) rfl ?_
        refine g_iconst X dX1_branch_98 (v := 1) (by decide) ?_
        refine g_iadd X dX1_branch_99 ?_
        refine Go.top (v := .int 2) (by decide) ?_
        refine g_iload_n X dX1_branch_100 rfl (j := 4) rfl ?_
        refine g_lload X dX1_branch_101 (j := 5) rfl ?_
        refine g_bipush X dX1_branch_103 (v := 10) (by decide) ?_
        refine g_iload X dX1_branch_105 (j := 0) rfl ?_
        refine g_isub X dX1_branch_107 ?_
        refine Go.gen (fun o9 => ?_)
        refine g_i2l X dX1_branch_108 rfl ?_
        refine g_lmul X dX1_branch_109 ?_
        refine Go.genL (fun o10 => ?_)
        refine g_callSV X (s_X1_branch_2 l G F I p3 (by omega) (by omega) o10 ) lk_X1_43 rfl rfl dX1_branch_110 (Nat.le_of_ble_eq_true rfl) ⟨by decide, by decide⟩ ⟨by decide, by decide⟩ (fun L M hp => ?_)
        obtain ⟨C, D, F, I, K1, hr⟩ := hp
        have K := K.step K1 (by decide)
        exact g_vret X hrt dX1_branch_113 (by decide) (by decide) ⟨C, D, F, I, K, trivial⟩
    · skip
      have q4t : ¬ o3.toInt ≤ (0 : Int32).toInt := fun z => q4 (Int32.le_iff_toInt_le.mpr z)
      have q4k : (0 : Int32).toInt = 0 := (by decide)
      have q4b := Int32.toInt_lt o3
      obtain ⟨n11, hn11, rfl⟩ := nI_of (x := o3) (fun z => by have z2 := Int32.lt_iff_toInt_lt.mp z; have z3 : (0 : Int32).toInt = 0 := (by decide); omega)
      rw [nI_toInt (by omega)] at q4t
      have tn11 := nI_toInt (n := n11) (by omega)
      refine g_aload_n X dX1_branch_37 rfl (j := 2) rfl ?_
      refine g_dup X dX1_branch_38 rfl ?_
      refine i_get X F 31 rfl rfl fk_X1_60 dX1_branch_39 rfl ?_
      refine Go.gen (fun o12 => ?_)
      refine g_iconst X dX1_branch_42 (v := 1) (by decide) ?_
      refine g_iload_n X dX1_branch_43 rfl (j := 3) rfl ?_
      refine g_ishl X dX1_branch_44 ?_
      refine Go.top (v := .int 2) (by decide) ?_
      refine g_ior X dX1_branch_45 ?_
      refine Go.gen (fun o13 => ?_)
      refine i_put X F I 31 rfl rfl rfl fk_X1_60 dX1_branch_46 rfl rfl (Nat.le_of_ble_eq_true rfl) trivial (fun M C F I K1 hC => ?_)
      have K := K.step K1 (by decide)
      refine g_aload_n X dX1_branch_49 rfl (j := 2) rfl ?_
      refine g_iload_n X dX1_branch_50 rfl (j := 3) rfl ?_
      refine g_callVV X (s_X4_passHour_31 l G F I 1 (by omega) (by omega) ) lk_X1_63 (F.1 31 rfl).2 (F.1 31 rfl).1 rfl rfl dX1_branch_51 (Nat.le_of_ble_eq_true rfl) ⟨by decide, by decide⟩ ⟨by decide, by decide⟩ (fun L M hp => ?_)
      obtain ⟨C, D, F, I, K1, hr⟩ := hp
      have K := K.step K1 (by decide)
      refine g_aload_n X dX1_branch_54 rfl (j := 1) rfl ?_
      refine g_aload_n X dX1_branch_55 rfl (j := 2) rfl ?_
      refine g_iload_n X dX1_branch_56 rfl (j := 3) rfl ?_
      refine g_iconst X dX1_branch_57 (v := 1) (by decide) ?_
      refine g_iadd X dX1_branch_58 ?_
      refine Go.top (v := .int 2) (by decide) ?_
      refine g_iload_n X dX1_branch_59 rfl (j := 4) rfl ?_
      refine g_lload X dX1_branch_60 (j := 5) rfl ?_
      refine g_iload X dX1_branch_62 (j := 0) rfl ?_
      refine g_i2l X dX1_branch_64 rfl ?_
      refine g_lmul X dX1_branch_65 ?_
      refine Go.genL (fun o14 => ?_)
      refine g_callSV X (s_X1_branch_2 l G F I p3 (by omega) (by omega) o14 ) lk_X1_43 rfl rfl dX1_branch_66 (Nat.le_of_ble_eq_true rfl) ⟨by decide, by decide⟩ ⟨by decide, by decide⟩ (fun L M hp => ?_)
      obtain ⟨C, D, F, I, K1, hr⟩ := hp
      have K := K.step K1 (by decide)
      refine g_iload X dX1_branch_69 (j := 0) rfl ?_
      refine g_bipush X dX1_branch_71 (v := 10) (by decide) ?_
      refine g_icmp_ge X dX1_branch_73 (tgt := 113) (by decide) (fun q15 => ?_) (fun q15 => ?_)
      · skip
        have q15 : 10 ≤ n11 := (nI_leI (a := 10) (b := n11) (by omega) (by omega)).mp q15
        exact g_vret X hrt dX1_branch_113 (by decide) (by decide) ⟨C, D, F, I, K, trivial⟩
      · skip
        have q15 : ¬ 10 ≤ n11 := fun z => q15 ((nI_leI (a := 10) (b := n11) (by omega) (by omega)).mpr z)
        refine g_aload_n X dX1_branch_76 rfl (j := 2) rfl ?_
        refine g_dup X dX1_branch_77 rfl ?_
        refine i_get X F 31 rfl rfl fk_X1_60 dX1_branch_78 rfl ?_
        refine Go.gen (fun o16 => ?_)
        refine g_iconst X dX1_branch_81 (v := 1) (by decide) ?_
        refine g_iload_n X dX1_branch_82 rfl (j := 3) rfl ?_
        refine g_ishl X dX1_branch_83 ?_
        refine Go.top (v := .int 2) (by decide) ?_
        refine g_iconst X dX1_branch_84 (v := -1) (by decide) ?_
        refine g_ixor X dX1_branch_85 ?_
        refine Go.top (v := .int (-3)) (by decide) ?_
        refine g_iand X dX1_branch_86 ?_
        refine Go.gen (fun o17 => ?_)
        refine i_put X F I 31 rfl rfl rfl fk_X1_60 dX1_branch_87 rfl rfl (Nat.le_of_ble_eq_true rfl) trivial (fun M C F I K1 hC => ?_)
        have K := K.step K1 (by decide)
        refine g_aload_n X dX1_branch_90 rfl (j := 2) rfl ?_
        refine g_iload_n X dX1_branch_91 rfl (j := 3) rfl ?_
        refine g_callVV X (s_X4_passHour_31 l G F I 1 (by omega) (by omega) ) lk_X1_63 (F.1 31 rfl).2 (F.1 31 rfl).1 rfl rfl dX1_branch_92 (Nat.le_of_ble_eq_true rfl) ⟨by decide, by decide⟩ ⟨by decide, by decide⟩ (fun L M hp => ?_)
        obtain ⟨C, D, F, I, K1, hr⟩ := hp
        have K := K.step K1 (by decide)
        refine g_aload_n X dX1_branch_95 rfl (j := 1) rfl ?_
        refine g_aload_n X dX1_branch_96 rfl (j := 2) rfl ?_
        refine g_iload_n X dX1_branch_97 rfl (j := 3) rfl ?_
        refine g_iconst X dX1_branch_98 (v := 1) (by decide) ?_
        refine g_iadd X dX1_branch_99 ?_
        refine Go.top (v := .int 2) (by decide) ?_
        refine g_iload_n X dX1_branch_100 rfl (j := 4) rfl ?_
        refine g_lload X dX1_branch_101 (j := 5) rfl ?_
        refine g_bipush X dX1_branch_103 (v := 10) (by decide) ?_
        refine g_iload X dX1_branch_105 (j := 0) rfl ?_
        refine g_isub X dX1_branch_107 ?_
        refine Go.top (v := .int (nI (10 - n11))) (congrArg Value.int (pk_sub (a := 10) (b := n11) (by omega))) ?_
        refine g_i2l X dX1_branch_108 rfl ?_
        refine g_lmul X dX1_branch_109 ?_
        refine Go.genL (fun o18 => ?_)
        refine g_callSV X (s_X1_branch_2 l G F I p3 (by omega) (by omega) o18 ) lk_X1_43 rfl rfl dX1_branch_110 (Nat.le_of_ble_eq_true rfl) ⟨by decide, by decide⟩ ⟨by decide, by decide⟩ (fun L M hp => ?_)
        obtain ⟨C, D, F, I, K1, hr⟩ := hp
        have K := K.step K1 (by decide)
        exact g_vret X hrt dX1_branch_113 (by decide) (by decide) ⟨C, D, F, I, K, trivial⟩
set_option maxHeartbeats 4000000 in
set_option maxRecDepth 100000 in
theorem s_X1_branch_0 (l : Launch) (G : va_G) {cy : Nat → ClassId} {L : List Nat} {M : Nat → va_E} {a : Nat → Nat} {act : Nat → Bool} {C0 : Nat → Nat → Int32} {D0 : Nat → Nat → Int64} {R : Nat → Nat → Option Nat} (F : WI L M a act (ent cy a C0 D0 R)) (I : Inv C0) (p3 : Nat) (hp3a : 0 ≤ p3) (hp3b : p3 ≤ 7) (p4 : Int64)  : MV l G cy yX1_branch cX1_branch 7 none 10 0 0 [.ref (a 39), .ref (a 31), .int 0, .int (nI p3), .long p4] L M (fun L2 M2 => ∃ C2 D2, WI L2 M2 a act (ent cy a C2 D2 R) ∧ Inv C2 ∧ Kp [31, 33, 34, 35, 36, 40] C0 D0 C2 D2 ∧ True) := by
  refine MV.of (own := RX1) rfl (by decide) (Nat.le_of_ble_eq_true rfl) ?_
  intro p e s m below meth c A X hrt hnm
  obtain ⟨C, D, hC0, hD0, F, I, K⟩ : ∃ C D, C = C0 ∧ D = D0 ∧ WI L M a act (ent cy a C D R) ∧ Inv C ∧ Kp [31, 33, 34, 35, 36, 40] C0 D0 C D := ⟨C0, D0, rfl, rfl, F, I, Kp.rf⟩
  refine g_iload_n X dX1_branch_0 rfl (j := 2) rfl ?_
  refine g_iload_n X dX1_branch_1 rfl (j := 3) rfl ?_
  refine g_icmp_gt X dX1_branch_2 (tgt := 11) (by decide) (fun q1 => ?_) (fun q1 => ?_)
  · skip
    have q1 : p3 < 0 := (nI_ltI (a := p3) (b := 0) (by omega) (by omega)).mp q1
    refine g_aload_n X dX1_branch_11 rfl (j := 0) rfl ?_
    refine g_aload_n X dX1_branch_12 rfl (j := 1) rfl ?_
    refine g_iload_n X dX1_branch_13 rfl (j := 2) rfl ?_
    refine g_callVI X (s_X4_walkersInside_31 l G F I 0 (by omega) (by omega) ) lk_X1_47 (F.1 31 rfl).2 (F.1 31 rfl).1 rfl rfl dX1_branch_14 (Nat.le_of_ble_eq_true rfl) ⟨by decide, by decide⟩ ⟨by decide, by decide⟩ (fun r2 L M hp => ?_)
    obtain ⟨C, D, F, I, K1, hr⟩ := hp
    have K := K.step K1 (by decide)
    refine g_lload X dX1_branch_17 (j := 4) rfl ?_
    refine g_callVV X (s_X1_addInside l G F I r2 p4 ) lk_X1_51 (F.1 39 rfl).2 (F.1 39 rfl).1 rfl rfl dX1_branch_19 (Nat.le_of_ble_eq_true rfl) ⟨by decide, by decide⟩ ⟨by decide, by decide⟩ (fun L M hp => ?_)
    obtain ⟨C, D, F, I, K1, hr⟩ := hp
    have K := K.step K1 (by decide)
    exact g_vret X hrt dX1_branch_22 (by decide) (by decide) ⟨C, D, F, I, K, trivial⟩
  · skip
    have q1 : ¬ p3 < 0 := fun z => q1 ((nI_ltI (a := p3) (b := 0) (by omega) (by omega)).mpr z)
    refine g_iload_n X dX1_branch_5 rfl (j := 2) rfl ?_
    refine g_bipush X dX1_branch_6 (v := 7) (by decide) ?_
    refine g_icmp_le X dX1_branch_8 (tgt := 23) (by decide) (fun _ => ?_) (fun q => absurd (by decide) q)
    refine g_aload_n X dX1_branch_23 rfl (j := 0) rfl ?_
    refine i_get X F 39 rfl rfl fk_X1_23 dX1_branch_24 rfl ?_
    refine i_get X F 3 rfl rfl fk_X1_55 dX1_branch_27 rfl ?_
    refine Go.gen (fun o3 => ?_)
    refine g_istore X dX1_branch_30 (by decide) (lv2 := [(6, .int o3), (0, .ref (a 39)), (1, .ref (a 31)), (2, .int 0), (3, .int (nI p3)), (4, .long p4)]) rfl ?_
    refine g_iload X dX1_branch_32 (j := 0) rfl ?_
    refine g_if_le X dX1_branch_34 (tgt := 69) (by decide) (fun q4 => ?_) (fun q4 => ?_)
    · skip
      have q4t : o3.toInt ≤ (0 : Int32).toInt := Int32.le_iff_toInt_le.mp q4
      have q4k : (0 : Int32).toInt = 0 := (by decide)
      have q4b := Int32.toInt_lt o3
      refine g_iload X dX1_branch_69 (j := 0) rfl ?_
      refine g_bipush X dX1_branch_71 (v := 10) (by decide) ?_
      refine g_icmp_ge X dX1_branch_73 (tgt := 113) (by decide) (fun q5 => ?_) (fun q5 => ?_)
      · skip
        have q5t : (10 : Int32).toInt ≤ o3.toInt := Int32.le_iff_toInt_le.mp q5
        have q5k : (10 : Int32).toInt = 10 := (by decide)
        have q5b := Int32.toInt_lt o3
        obtain ⟨n6, hn6, rfl⟩ := nI_of (x := o3) (fun z => by have z2 := Int32.lt_iff_toInt_lt.mp z; have z3 : (0 : Int32).toInt = 0 := (by decide); omega)
        rw [nI_toInt (by omega)] at q5t
        have tn6 := nI_toInt (n := n6) (by omega)
        exact g_vret X hrt dX1_branch_113 (by decide) (by decide) ⟨C, D, F, I, K, trivial⟩
      · skip
        have q5t : ¬ (10 : Int32).toInt ≤ o3.toInt := fun z => q5 (Int32.le_iff_toInt_le.mpr z)
        have q5k : (10 : Int32).toInt = 10 := (by decide)
        have q5b := Int32.toInt_lt o3
        refine g_aload_n X dX1_branch_76 rfl (j := 2) rfl ?_
        refine g_dup X dX1_branch_77 rfl ?_
        refine i_get X F 31 rfl rfl fk_X1_60 dX1_branch_78 rfl ?_
        refine Go.gen (fun o7 => ?_)
        refine g_iconst X dX1_branch_81 (v := 1) (by decide) ?_
        refine g_iload_n X dX1_branch_82 rfl (j := 3) rfl ?_
        refine g_ishl X dX1_branch_83 ?_
        refine Go.top (v := .int 1) (by decide) ?_
        refine g_iconst X dX1_branch_84 (v := -1) (by decide) ?_
        refine g_ixor X dX1_branch_85 ?_
        refine Go.top (v := .int (-2)) (by decide) ?_
        refine g_iand X dX1_branch_86 ?_
        refine Go.gen (fun o8 => ?_)
        refine i_put X F I 31 rfl rfl rfl fk_X1_60 dX1_branch_87 rfl rfl (Nat.le_of_ble_eq_true rfl) trivial (fun M C F I K1 hC => ?_)
        have K := K.step K1 (by decide)
        refine g_aload_n X dX1_branch_90 rfl (j := 2) rfl ?_
        refine g_iload_n X dX1_branch_91 rfl (j := 3) rfl ?_
        refine g_callVV X (s_X4_passHour_31 l G F I 0 (by omega) (by omega) ) lk_X1_63 (F.1 31 rfl).2 (F.1 31 rfl).1 rfl rfl dX1_branch_92 (Nat.le_of_ble_eq_true rfl) ⟨by decide, by decide⟩ ⟨by decide, by decide⟩ (fun L M hp => ?_)
        obtain ⟨C, D, F, I, K1, hr⟩ := hp
        have K := K.step K1 (by decide)
        refine g_aload_n X dX1_branch_95 rfl (j := 1) rfl ?_
        refine g_aload_n X dX1_branch_96 rfl (j := 2) rfl ?_
        refine g_iload_n X dX1_branch_97 rfl (j := 3) rfl ?_
        refine g_iconst X dX1_branch_98 (v := 1) (by decide) ?_
        refine g_iadd X dX1_branch_99 ?_
        refine Go.top (v := .int 1) (by decide) ?_
        refine g_iload_n X dX1_branch_100 rfl (j := 4) rfl ?_
        refine g_lload X dX1_branch_101 (j := 5) rfl ?_
        refine g_bipush X dX1_branch_103 (v := 10) (by decide) ?_
        refine g_iload X dX1_branch_105 (j := 0) rfl ?_
        refine g_isub X dX1_branch_107 ?_
        refine Go.gen (fun o9 => ?_)
        refine g_i2l X dX1_branch_108 rfl ?_
        refine g_lmul X dX1_branch_109 ?_
        refine Go.genL (fun o10 => ?_)
        refine g_callSV X (s_X1_branch_1 l G F I p3 (by omega) (by omega) o10 ) lk_X1_43 rfl rfl dX1_branch_110 (Nat.le_of_ble_eq_true rfl) ⟨by decide, by decide⟩ ⟨by decide, by decide⟩ (fun L M hp => ?_)
        obtain ⟨C, D, F, I, K1, hr⟩ := hp
        have K := K.step K1 (by decide)
        exact g_vret X hrt dX1_branch_113 (by decide) (by decide) ⟨C, D, F, I, K, trivial⟩
    · skip
      have q4t : ¬ o3.toInt ≤ (0 : Int32).toInt := fun z => q4 (Int32.le_iff_toInt_le.mpr z)
      have q4k : (0 : Int32).toInt = 0 := (by decide)
      have q4b := Int32.toInt_lt o3
      obtain ⟨n11, hn11, rfl⟩ := nI_of (x := o3) (fun z => by have z2 := Int32.lt_iff_toInt_lt.mp z; have z3 : (0 : Int32).toInt = 0 := (by decide); omega)
      rw [nI_toInt (by omega)] at q4t
      have tn11 := nI_toInt (n := n11) (by omega)
      refine g_aload_n X dX1_branch_37 rfl (j := 2) rfl ?_
      refine g_dup X dX1_branch_38 rfl ?_
      refine i_get X F 31 rfl rfl fk_X1_60 dX1_branch_39 rfl ?_
      refine Go.gen (fun o12 => ?_)
      refine g_iconst X dX1_branch_42 (v := 1) (by decide) ?_
      refine g_iload_n X dX1_branch_43 rfl (j := 3) rfl ?_
      refine g_ishl X dX1_branch_44 ?_
      refine Go.top (v := .int 1) (by decide) ?_
      refine g_ior X dX1_branch_45 ?_
      refine Go.gen (fun o13 => ?_)
      refine i_put X F I 31 rfl rfl rfl fk_X1_60 dX1_branch_46 rfl rfl (Nat.le_of_ble_eq_true rfl) trivial (fun M C F I K1 hC => ?_)
      have K := K.step K1 (by decide)
      refine g_aload_n X dX1_branch_49 rfl (j := 2) rfl ?_
      refine g_iload_n X dX1_branch_50 rfl (j := 3) rfl ?_
      refine g_callVV X (s_X4_passHour_31 l G F I 0 (by omega) (by omega) ) lk_X1_63 (F.1 31 rfl).2 (F.1 31 rfl).1 rfl rfl dX1_branch_51 (Nat.le_of_ble_eq_true rfl) ⟨by decide, by decide⟩ ⟨by decide, by decide⟩ (fun L M hp => ?_)
      obtain ⟨C, D, F, I, K1, hr⟩ := hp
      have K := K.step K1 (by decide)
      refine g_aload_n X dX1_branch_54 rfl (j := 1) rfl ?_
      refine g_aload_n X dX1_branch_55 rfl (j := 2) rfl ?_
      refine g_iload_n X dX1_branch_56 rfl (j := 3) rfl ?_
      refine g_iconst X dX1_branch_57 (v := 1) (by decide) ?_
      refine g_iadd X dX1_branch_58 ?_
      refine Go.top (v := .int 1) (by decide) ?_
      refine g_iload_n X dX1_branch_59 rfl (j := 4) rfl ?_
      refine g_lload X dX1_branch_60 (j := 5) rfl ?_
      refine g_iload X dX1_branch_62 (j := 0) rfl ?_
      refine g_i2l X dX1_branch_64 rfl ?_
      refine g_lmul X dX1_branch_65 ?_
      refine Go.genL (fun o14 => ?_)
      refine g_callSV X (s_X1_branch_1 l G F I p3 (by omega) (by omega) o14 ) lk_X1_43 rfl rfl dX1_branch_66 (Nat.le_of_ble_eq_true rfl) ⟨by decide, by decide⟩ ⟨by decide, by decide⟩ (fun L M hp => ?_)
      obtain ⟨C, D, F, I, K1, hr⟩ := hp
      have K := K.step K1 (by decide)
      refine g_iload X dX1_branch_69 (j := 0) rfl ?_
      refine g_bipush X dX1_branch_71 (v := 10) (by decide) ?_
      refine g_icmp_ge X dX1_branch_73 (tgt := 113) (by decide) (fun q15 => ?_) (fun q15 => ?_)
      · skip
        have q15 : 10 ≤ n11 := (nI_leI (a := 10) (b := n11) (by omega) (by omega)).mp q15
        exact g_vret X hrt dX1_branch_113 (by decide) (by decide) ⟨C, D, F, I, K, trivial⟩
      · skip
        have q15 : ¬ 10 ≤ n11 := fun z => q15 ((nI_leI (a := 10) (b := n11) (by omega) (by omega)).mpr z)
        refine g_aload_n X dX1_branch_76 rfl (j := 2) rfl ?_
        refine g_dup X dX1_branch_77 rfl ?_
        refine i_get X F 31 rfl rfl fk_X1_60 dX1_branch_78 rfl ?_
        refine Go.gen (fun o16 => ?_)
        refine g_iconst X dX1_branch_81 (v := 1) (by decide) ?_
        refine g_iload_n X dX1_branch_82 rfl (j := 3) rfl ?_
        refine g_ishl X dX1_branch_83 ?_
        refine Go.top (v := .int 1) (by decide) ?_
        refine g_iconst X dX1_branch_84 (v := -1) (by decide) ?_
        refine g_ixor X dX1_branch_85 ?_
        refine Go.top (v := .int (-2)) (by decide) ?_
        refine g_iand X dX1_branch_86 ?_
        refine Go.gen (fun o17 => ?_)
        refine i_put X F I 31 rfl rfl rfl fk_X1_60 dX1_branch_87 rfl rfl (Nat.le_of_ble_eq_true rfl) trivial (fun M C F I K1 hC => ?_)
        have K := K.step K1 (by decide)
        refine g_aload_n X dX1_branch_90 rfl (j := 2) rfl ?_
        refine g_iload_n X dX1_branch_91 rfl (j := 3) rfl ?_
        refine g_callVV X (s_X4_passHour_31 l G F I 0 (by omega) (by omega) ) lk_X1_63 (F.1 31 rfl).2 (F.1 31 rfl).1 rfl rfl dX1_branch_92 (Nat.le_of_ble_eq_true rfl) ⟨by decide, by decide⟩ ⟨by decide, by decide⟩ (fun L M hp => ?_)
        obtain ⟨C, D, F, I, K1, hr⟩ := hp
        have K := K.step K1 (by decide)
        refine g_aload_n X dX1_branch_95 rfl (j := 1) rfl ?_
        refine g_aload_n X dX1_branch_96 rfl (j := 2) rfl ?_
        refine g_iload_n X dX1_branch_97 rfl (j := 3) rfl ?_
        refine g_iconst X dX1_branch_98 (v := 1) (by decide) ?_
        refine g_iadd X dX1_branch_99 ?_
        refine Go.top (v := .int 1) (by decide) ?_
        refine g_iload_n X dX1_branch_100 rfl (j := 4) rfl ?_
        refine g_lload X dX1_branch_101 (j := 5) rfl ?_
        refine g_bipush X dX1_branch_103 (v := 10) (by decide) ?_
        refine g_iload X dX1_branch_105 (j := 0) rfl ?_
        refine g_isub X dX1_branch_107 ?_
        refine Go.top (v := .int (nI (10 - n11))) (congrArg Value.int (pk_sub (a := 10) (b := n11) (by omega))) ?_
        refine g_i2l X dX1_branch_108 rfl ?_
        refine g_lmul X dX1_branch_109 ?_
        refine Go.genL (fun o18 => ?_)
        refine g_callSV X (s_X1_branch_1 l G F I p3 (by omega) (by omega) o18 ) lk_X1_43 rfl rfl dX1_branch_110 (Nat.le_of_ble_eq_true rfl) ⟨by decide, by decide⟩ ⟨by decide, by decide⟩ (fun L M hp => ?_)
        obtain ⟨C, D, F, I, K1, hr⟩ := hp
        have K := K.step K1 (by decide)
        exact g_vret X hrt dX1_branch_113 (by decide) (by decide) ⟨C, D, F, I, K, trivial⟩
set_option maxHeartbeats 4000000 in
set_option maxRecDepth 100000 in
theorem s_X1_learn (l : Launch) (G : va_G) {cy : Nat → ClassId} {L : List Nat} {M : Nat → va_E} {a : Nat → Nat} {act : Nat → Bool} {C0 : Nat → Nat → Int32} {D0 : Nat → Nat → Int64} {R : Nat → Nat → Option Nat} (F : WI L M a act (ent cy a C0 D0 R)) (I : Inv C0) (p1 : Nat) (hp1a : 0 ≤ p1) (hp1b : p1 ≤ 7)  : MV l G cy yX1_learn cX1_learn 4 none 11 0 0 [.ref (a 39), .ref (a 31), .int (nI p1)] L M (fun L2 M2 => ∃ C2 D2, WI L2 M2 a act (ent cy a C2 D2 R) ∧ Inv C2 ∧ Kp [31, 32, 33, 34, 35, 36, 39, 40] C0 D0 C2 D2 ∧ True) := by
  refine MV.of (own := RX1) rfl (by decide) (Nat.le_of_ble_eq_true rfl) ?_
  intro p e s m below meth c A X hrt hnm
  obtain ⟨C, D, hC0, hD0, F, I, K⟩ : ∃ C D, C = C0 ∧ D = D0 ∧ WI L M a act (ent cy a C D R) ∧ Inv C ∧ Kp [31, 32, 33, 34, 35, 36, 39, 40] C0 D0 C D := ⟨C0, D0, rfl, rfl, F, I, Kp.rf⟩
  refine g_aload_n X dX1_learn_0 rfl (j := 0) rfl ?_
  refine i_get X F 39 rfl rfl fk_X1_9 dX1_learn_1 rfl ?_
  refine Go.gen (fun o1 => ?_)
  refine g_iload_n X dX1_learn_4 rfl (j := 2) rfl ?_
  refine g_icmp_ne X dX1_learn_5 (tgt := 9) (by decide) (fun q2 => ?_) (fun q2 => ?_)
  · skip
    refine g_aload_n X dX1_learn_9 rfl (j := 0) rfl ?_
    refine g_iload_n X dX1_learn_10 rfl (j := 2) rfl ?_
    refine i_put X F I 39 rfl rfl rfl fk_X1_9 dX1_learn_11 rfl rfl (Nat.le_of_ble_eq_true rfl) trivial (fun M C F I K1 hC => ?_)
    have K := K.step K1 (by decide)
    refine g_aload_n X dX1_learn_14 rfl (j := 0) rfl ?_
    refine i_get X F 39 rfl rfl fk_X1_15 dX1_learn_15 rfl ?_
    refine g_lconst X dX1_learn_18 (v := 0) (by decide) ?_
    refine g_callSV X (s_J7_fill_d0a16_40 l G F I  ) lk_X1_27 rfl rfl dX1_learn_19 (Nat.le_of_ble_eq_true rfl) ⟨by decide, by decide⟩ ⟨by decide, by decide⟩ (fun L M hp => ?_)
    obtain ⟨C, D, F, I, K1, hr⟩ := hp
    have K := K.step K1 (by decide)
    refine g_aload_n X dX1_learn_22 rfl (j := 0) rfl ?_
    refine g_lconst X dX1_learn_23 (v := 1) (by decide) ?_
    refine i_putL X F 39 rfl rfl rfl fk_X1_19 dX1_learn_24 (Nat.le_of_ble_eq_true rfl) (fun M D F K1 hC => ?_)
    have K := K.step K1 (by decide)
    refine g_iconst X dX1_learn_27 (v := 0) (by decide) ?_
    refine g_istore_n X dX1_learn_28 rfl (by decide) (lv2 := [(3, .int 0), (0, .ref (a 39)), (1, .ref (a 31)), (2, .int (nI p1))]) rfl ?_
    refine g_lv [0, 1, 2, 3] (lv2 := [(3, .int 0), (0, .ref (a 39)), (1, .ref (a 31)), (2, .int (nI p1))]) rfl ?_
    refine i_loop (mods := [31, 32, 33, 34, 35, 36, 39, 40]) (fun x : Nat => 8 - x) (fun x => [(3, .int (nI (x))), (0, .ref (a 39)), (1, .ref (a 31)), (2, .int (nI p1))]) (fun x C => 0 ≤ x ∧ x ≤ 8) (fun x L M C D F I K hP ih29 => ?_) ((0) : Nat) F I K ⟨by show _ ≤ _; omega, by show _ ≤ _; omega⟩
    obtain ⟨i29_3, rfl⟩ : ∃ z, z = x := ⟨_, rfl⟩
    obtain ⟨hi29_3a, hi29_3b⟩ := hP
    refine g_lv [0, 1, 2, 3] (lv2 := [(3, .int (nI i29_3)), (0, .ref (a 39)), (1, .ref (a 31)), (2, .int (nI p1))]) rfl ?_
    refine g_iload_n X dX1_learn_29 rfl (j := 0) rfl ?_
    refine g_iload_n X dX1_learn_30 rfl (j := 3) rfl ?_
    refine g_icmp_gt X dX1_learn_31 (tgt := 52) (by decide) (fun q3 => ?_) (fun q3 => ?_)
    · skip
      have q3 : p1 < i29_3 := (nI_ltI (a := p1) (b := i29_3) (by omega) (by omega)).mp q3
      refine g_aload_n X dX1_learn_52 rfl (j := 2) rfl ?_
      refine g_callVV X (s_X4_prepare_31 l G F I  ) lk_X1_35 (F.1 31 rfl).2 (F.1 31 rfl).1 rfl rfl dX1_learn_53 (Nat.le_of_ble_eq_true rfl) ⟨by decide, by decide⟩ ⟨by decide, by decide⟩ (fun L M hp => ?_)
      obtain ⟨C, D, F, I, K1, hr⟩ := hp
      have K := K.step K1 (by decide)
      refine g_aload_n X dX1_learn_56 rfl (j := 2) rfl ?_
      refine g_callVV X (s_X4_begin_31 l G F I  ) lk_X1_40 (F.1 31 rfl).2 (F.1 31 rfl).1 rfl rfl dX1_learn_57 (Nat.le_of_ble_eq_true rfl) ⟨by decide, by decide⟩ ⟨by decide, by decide⟩ (fun L M hp => ?_)
      obtain ⟨C, D, F, I, K1, hr⟩ := hp
      have K := K.step K1 (by decide)
      refine g_aload_n X dX1_learn_60 rfl (j := 1) rfl ?_
      refine g_aload_n X dX1_learn_61 rfl (j := 2) rfl ?_
      refine g_iconst X dX1_learn_62 (v := 0) (by decide) ?_
      refine g_iload_n X dX1_learn_63 rfl (j := 3) rfl ?_
      refine g_lconst X dX1_learn_64 (v := 1) (by decide) ?_
      refine g_callSV X (s_X1_branch_0 l G F I p1 (by omega) (by omega) (1 : Int64) ) lk_X1_43 rfl rfl dX1_learn_65 (Nat.le_of_ble_eq_true rfl) ⟨by decide, by decide⟩ ⟨by decide, by decide⟩ (fun L M hp => ?_)
      obtain ⟨C, D, F, I, K1, hr⟩ := hp
      have K := K.step K1 (by decide)
      exact g_vret X hrt dX1_learn_68 (by decide) (by decide) ⟨C, D, F, I, K, trivial⟩
    · skip
      have q3 : ¬ p1 < i29_3 := fun z => q3 ((nI_ltI (a := p1) (b := i29_3) (by omega) (by omega)).mpr z)
      refine g_aload_n X dX1_learn_34 rfl (j := 1) rfl ?_
      refine g_dup X dX1_learn_35 rfl ?_
      refine i_get X F 39 rfl rfl fk_X1_19 dX1_learn_36 rfl ?_
      refine Go.genL (fun o4 => ?_)
      refine g_ldc2 X (v := 10) wd515 dX1_learn_39 ?_
      refine g_lmul X dX1_learn_42 ?_
      refine Go.genL (fun o5 => ?_)
      refine i_putL X F 39 rfl rfl rfl fk_X1_19 dX1_learn_43 (Nat.le_of_ble_eq_true rfl) (fun M D F K1 hC => ?_)
      have K := K.step K1 (by decide)
      refine g_iinc X dX1_learn_46 (j := 0) rfl (v := nI (i29_3 + 1)) (nI_1 i29_3) (by decide) (lv2 := [(3, .int (nI (i29_3 + 1))), (0, .ref (a 39)), (1, .ref (a 31)), (2, .int (nI p1))]) rfl ?_
      refine g_goto X dX1_learn_49 (tgt := 29) (by decide) ?_
      refine g_lv [0, 1, 2, 3] (lv2 := [(3, .int (nI (i29_3 + 1))), (0, .ref (a 39)), (1, .ref (a 31)), (2, .int (nI p1))]) rfl ?_
      exact ih29 ((i29_3 + 1)) L M C D F I K ⟨by omega, by omega⟩ (by show _ < _; omega)
  · skip
    exact g_vret X hrt dX1_learn_8 (by decide) (by decide) ⟨C, D, F, I, K, trivial⟩
set_option maxHeartbeats 4000000 in
set_option maxRecDepth 100000 in
theorem s_X7_chance (l : Launch) (G : va_G) {cy : Nat → ClassId} {L : List Nat} {M : Nat → va_E} {a : Nat → Nat} {act : Nat → Bool} {C0 : Nat → Nat → Int32} {D0 : Nat → Nat → Int64} {R : Nat → Nat → Option Nat} (F : WI L M a act (ent cy a C0 D0 R)) (I : Inv C0) (p0 : Int32) (p1 : Int32) (p2 : Int32)  : MJ l G cy yX7_chance cX7_chance 4 (some .long) 12 0 0 [.ref (a 0), .int p0, .int p1, .int p2] L M (fun r L2 M2 => ∃ C2 D2, WI L2 M2 a act (ent cy a C2 D2 R) ∧ Inv C2 ∧ Kp [31, 32, 33, 34, 35, 36, 39, 40] C0 D0 C2 D2 ∧ True) := by
  refine MJ.of (own := RX7) rfl (by decide) (Nat.le_of_ble_eq_true rfl) ?_
  intro p e s m below meth c A X hrt hnm
  obtain ⟨C, D, hC0, hD0, F, I, K⟩ : ∃ C D, C = C0 ∧ D = D0 ∧ WI L M a act (ent cy a C D R) ∧ Inv C ∧ Kp [31, 32, 33, 34, 35, 36, 39, 40] C0 D0 C D := ⟨C0, D0, rfl, rfl, F, I, Kp.rf⟩
  refine g_aload_n X dX7_chance_0 rfl (j := 0) rfl ?_
  refine i_get X F 0 rfl rfl fk_X7_19 dX7_chance_1 rfl ?_
  refine g_iload_n X dX7_chance_4 rfl (j := 1) rfl ?_
  refine g_callVI X (s_X2_hasWalker l G F I p0 ) lk_X7_122 (F.1 3 rfl).2 (F.1 3 rfl).1 rfl rfl dX7_chance_5 (Nat.le_of_ble_eq_true rfl) ⟨by decide, by decide⟩ ⟨by decide, by decide⟩ (fun r1 L M hp => ?_)
  obtain ⟨C, D, F, I, K1, hr⟩ := hp
  have K := K.step K1 (by decide)
  rcases hr with rfl | ⟨rfl, n2, hn2a, hn2b, en2⟩
  · skip
    refine g_if_eq X dX7_chance_8 (tgt := 26) (by decide) (fun _ => ?_) (fun q => absurd (by decide) q)
    refine g_ldc2 X (v := -2) wd532 dX7_chance_26 ?_
    exact g_lret X hrt dX7_chance_29 (by decide) (by decide) ⟨C, D, F, I, K, trivial⟩
  · skip
    subst en2
    refine g_if_eq X dX7_chance_8 (tgt := 26) (by decide) (fun q => absurd q (by decide)) (fun _ => ?_)
    refine g_aload_n X dX7_chance_11 rfl (j := 0) rfl ?_
    refine g_iload_n X dX7_chance_12 rfl (j := 2) rfl ?_
    refine g_callVI X (s_X7_isFogHour l G F I p1 ) lk_X7_327 (F.1 0 rfl).2 (F.1 0 rfl).1 rfl rfl dX7_chance_13 (Nat.le_of_ble_eq_true rfl) ⟨by decide, by decide⟩ ⟨by decide, by decide⟩ (fun r3 L M hp => ?_)
    obtain ⟨C, D, F, I, K1, hr⟩ := hp
    have K := K.step K1 (by decide)
    rcases hr with rfl | ⟨rfl, n4, hn4a, hn4b, en4⟩
    · skip
      refine g_if_eq X dX7_chance_16 (tgt := 26) (by decide) (fun _ => ?_) (fun q => absurd (by decide) q)
      refine g_ldc2 X (v := -2) wd532 dX7_chance_26 ?_
      exact g_lret X hrt dX7_chance_29 (by decide) (by decide) ⟨C, D, F, I, K, trivial⟩
    · skip
      subst en4
      refine g_if_eq X dX7_chance_16 (tgt := 26) (by decide) (fun q => absurd q (by decide)) (fun _ => ?_)
      refine g_iload_n X dX7_chance_19 rfl (j := 3) rfl ?_
      refine g_callSI X (s_X7_isEither l G F I p2 ) lk_X7_125 rfl rfl dX7_chance_20 (Nat.le_of_ble_eq_true rfl) ⟨by decide, by decide⟩ ⟨by decide, by decide⟩ (fun r5 L M hp => ?_)
      obtain ⟨C, D, F, I, K1, hr⟩ := hp
      have K := K.step K1 (by decide)
      rcases hr with rfl | rfl
      · skip
        refine g_if_ne X dX7_chance_23 (tgt := 30) (by decide) (fun q => absurd (by decide) q) (fun _ => ?_)
        refine g_ldc2 X (v := -2) wd532 dX7_chance_26 ?_
        exact g_lret X hrt dX7_chance_29 (by decide) (by decide) ⟨C, D, F, I, K, trivial⟩
      · skip
        refine g_if_ne X dX7_chance_23 (tgt := 30) (by decide) (fun _ => ?_) (fun q => absurd q (by decide))
        refine g_aload_n X dX7_chance_30 rfl (j := 0) rfl ?_
        refine i_get X F 0 rfl rfl fk_X7_58 dX7_chance_31 rfl ?_
        refine g_aload_n X dX7_chance_34 rfl (j := 0) rfl ?_
        refine i_get X F 0 rfl rfl fk_X7_45 dX7_chance_35 rfl ?_
        refine g_iload_n X dX7_chance_38 rfl (j := 2) rfl ?_
        refine g_callVV X (s_X1_learn l G F I n4 (by omega) (by omega) ) lk_X7_332 (F.1 39 rfl).2 (F.1 39 rfl).1 rfl rfl dX7_chance_39 (Nat.le_of_ble_eq_true rfl) ⟨by decide, by decide⟩ ⟨by decide, by decide⟩ (fun L M hp => ?_)
        obtain ⟨C, D, F, I, K1, hr⟩ := hp
        have K := K.step K1 (by decide)
        refine g_aload_n X dX7_chance_42 rfl (j := 0) rfl ?_
        refine i_get X F 0 rfl rfl fk_X7_58 dX7_chance_43 rfl ?_
        refine i_get X F 39 rfl rfl fk_X7_336 dX7_chance_46 rfl ?_
        refine g_iload_n X dX7_chance_49 rfl (j := 1) rfl ?_
        refine i_lald X F 40 rfl rfl dX7_chance_50 (vp_in_nI (by omega) (by decide)) rfl ?_
        refine Go.genL (fun o6 => ?_)
        refine g_aload_n X dX7_chance_51 rfl (j := 0) rfl ?_
        refine i_get X F 0 rfl rfl fk_X7_58 dX7_chance_52 rfl ?_
        refine i_get X F 39 rfl rfl fk_X7_340 dX7_chance_55 rfl ?_
        refine Go.genL (fun o7 => ?_)
        refine g_iload_n X dX7_chance_58 rfl (j := 3) rfl ?_
        refine g_callSJ X (s_X7_partOfFraction l G F I o6 o7 p2 ) lk_X7_319 rfl rfl dX7_chance_59 (Nat.le_of_ble_eq_true rfl) ⟨by decide, by decide⟩ ⟨by decide, by decide⟩ (fun r8 L M hp => ?_)
        obtain ⟨C, D, F, I, K1, hr⟩ := hp
        have K := K.step K1 (by decide)
        exact g_lret X hrt dX7_chance_62 (by decide) (by decide) ⟨C, D, F, I, K, trivial⟩
set_option maxHeartbeats 4000000 in
set_option maxRecDepth 100000 in
theorem s_X7_mean (l : Launch) (G : va_G) {cy : Nat → ClassId} {L : List Nat} {M : Nat → va_E} {a : Nat → Nat} {act : Nat → Bool} {C0 : Nat → Nat → Int32} {D0 : Nat → Nat → Int64} {R : Nat → Nat → Option Nat} (F : WI L M a act (ent cy a C0 D0 R)) (I : Inv C0) (p0 : Int32) (p1 : Int32)  : MJ l G cy yX7_mean cX7_mean 6 (some .long) 12 0 0 [.ref (a 0), .int p0, .int p1] L M (fun r L2 M2 => ∃ C2 D2, WI L2 M2 a act (ent cy a C2 D2 R) ∧ Inv C2 ∧ Kp [31, 32, 33, 34, 35, 36, 39, 40] C0 D0 C2 D2 ∧ True) := by
  refine MJ.of (own := RX7) rfl (by decide) (Nat.le_of_ble_eq_true rfl) ?_
  intro p e s m below meth c A X hrt hnm
  obtain ⟨C, D, hC0, hD0, F, I, K⟩ : ∃ C D, C = C0 ∧ D = D0 ∧ WI L M a act (ent cy a C D R) ∧ Inv C ∧ Kp [31, 32, 33, 34, 35, 36, 39, 40] C0 D0 C D := ⟨C0, D0, rfl, rfl, F, I, Kp.rf⟩
  refine g_aload_n X dX7_mean_0 rfl (j := 0) rfl ?_
  refine g_iload_n X dX7_mean_1 rfl (j := 1) rfl ?_
  refine g_callVI X (s_X7_isFogHour l G F I p0 ) lk_X7_327 (F.1 0 rfl).2 (F.1 0 rfl).1 rfl rfl dX7_mean_2 (Nat.le_of_ble_eq_true rfl) ⟨by decide, by decide⟩ ⟨by decide, by decide⟩ (fun r1 L M hp => ?_)
  obtain ⟨C, D, F, I, K1, hr⟩ := hp
  have K := K.step K1 (by decide)
  rcases hr with rfl | ⟨rfl, n2, hn2a, hn2b, en2⟩
  · skip
    refine g_if_eq X dX7_mean_5 (tgt := 15) (by decide) (fun _ => ?_) (fun q => absurd (by decide) q)
    refine g_ldc2 X (v := -2) wd532 dX7_mean_15 ?_
    exact g_lret X hrt dX7_mean_18 (by decide) (by decide) ⟨C, D, F, I, K, trivial⟩
  · skip
    subst en2
    refine g_if_eq X dX7_mean_5 (tgt := 15) (by decide) (fun q => absurd q (by decide)) (fun _ => ?_)
    refine g_iload_n X dX7_mean_8 rfl (j := 2) rfl ?_
    refine g_callSI X (s_X7_isEither l G F I p1 ) lk_X7_125 rfl rfl dX7_mean_9 (Nat.le_of_ble_eq_true rfl) ⟨by decide, by decide⟩ ⟨by decide, by decide⟩ (fun r3 L M hp => ?_)
    obtain ⟨C, D, F, I, K1, hr⟩ := hp
    have K := K.step K1 (by decide)
    rcases hr with rfl | rfl
    · skip
      refine g_if_ne X dX7_mean_12 (tgt := 19) (by decide) (fun q => absurd (by decide) q) (fun _ => ?_)
      refine g_ldc2 X (v := -2) wd532 dX7_mean_15 ?_
      exact g_lret X hrt dX7_mean_18 (by decide) (by decide) ⟨C, D, F, I, K, trivial⟩
    · skip
      refine g_if_ne X dX7_mean_12 (tgt := 19) (by decide) (fun _ => ?_) (fun q => absurd q (by decide))
      refine g_aload_n X dX7_mean_19 rfl (j := 0) rfl ?_
      refine i_get X F 0 rfl rfl fk_X7_58 dX7_mean_20 rfl ?_
      refine g_aload_n X dX7_mean_23 rfl (j := 0) rfl ?_
      refine i_get X F 0 rfl rfl fk_X7_45 dX7_mean_24 rfl ?_
      refine g_iload_n X dX7_mean_27 rfl (j := 1) rfl ?_
      refine g_callVV X (s_X1_learn l G F I n2 (by omega) (by omega) ) lk_X7_332 (F.1 39 rfl).2 (F.1 39 rfl).1 rfl rfl dX7_mean_28 (Nat.le_of_ble_eq_true rfl) ⟨by decide, by decide⟩ ⟨by decide, by decide⟩ (fun L M hp => ?_)
      obtain ⟨C, D, F, I, K1, hr⟩ := hp
      have K := K.step K1 (by decide)
      refine g_lconst X dX7_mean_31 (v := 0) (by decide) ?_
      refine g_lstore_n X dX7_mean_32 rfl (by decide) (lv2 := [(3, .long 0), (0, .ref (a 0)), (1, .int (nI n2)), (2, .int p1)]) rfl ?_
      refine g_iconst X dX7_mean_33 (v := 0) (by decide) ?_
      refine g_istore X dX7_mean_34 (by decide) (lv2 := [(5, .int 0), (3, .long 0), (0, .ref (a 0)), (1, .int (nI n2)), (2, .int p1)]) rfl ?_
      refine g_lv [0, 1, 2, 3, 4] (lv2 := [(5, .int 0), (3, .long 0), (0, .ref (a 0)), (1, .int (nI n2)), (2, .int p1)]) rfl ?_
      refine i_loop (mods := [31, 32, 33, 34, 35, 36, 39, 40]) (fun x : Nat × Int64 => 8 - x.1) (fun x => [(5, .int (nI (x.1))), (3, .long (x.2)), (0, .ref (a 0)), (1, .int (nI n2)), (2, .int p1)]) (fun x C => 0 ≤ x.1 ∧ x.1 ≤ 8) (fun x L M C D F I K hP ih36 => ?_) ((0, 0) : Nat × Int64) F I K ⟨by show _ ≤ _; omega, by show _ ≤ _; omega⟩
      rcases x with ⟨i36_5, v36_3⟩
      obtain ⟨hi36_5a, hi36_5b⟩ := hP
      refine g_lv [0, 1, 2, 3, 4] (lv2 := [(5, .int (nI i36_5)), (3, .long v36_3), (0, .ref (a 0)), (1, .int (nI n2)), (2, .int p1)]) rfl ?_
      refine g_iload X dX7_mean_36 (j := 0) rfl ?_
      refine g_aload_n X dX7_mean_38 rfl (j := 2) rfl ?_
      refine i_get X F 0 rfl rfl fk_X7_19 dX7_mean_39 rfl ?_
      obtain ⟨n4, hn4, en4⟩ := rg_nat ((I 3 8).2.2.2 rfl) (by decide)
      refine i_get X F 3 rfl rfl fk_X7_276 dX7_mean_42 (v := .int (nI n4)) (congrArg (fun z => some (Value.int z)) en4) ?_
      refine g_icmp_ge X dX7_mean_45 (tgt := 67) (by decide) (fun q5 => ?_) (fun q5 => ?_)
      · skip
        have q5 : n4 ≤ i36_5 := (nI_leI (a := n4) (b := i36_5) (by omega) (by omega)).mp q5
        refine g_lload_n X dX7_mean_67 rfl (j := 1) rfl ?_
        refine g_aload_n X dX7_mean_68 rfl (j := 2) rfl ?_
        refine i_get X F 0 rfl rfl fk_X7_58 dX7_mean_69 rfl ?_
        refine i_get X F 39 rfl rfl fk_X7_340 dX7_mean_72 rfl ?_
        refine Go.genL (fun o6 => ?_)
        refine g_iload_n X dX7_mean_75 rfl (j := 4) rfl ?_
        refine g_callSJ X (s_X7_partOfFraction l G F I v36_3 o6 p1 ) lk_X7_319 rfl rfl dX7_mean_76 (Nat.le_of_ble_eq_true rfl) ⟨by decide, by decide⟩ ⟨by decide, by decide⟩ (fun r7 L M hp => ?_)
        obtain ⟨C, D, F, I, K1, hr⟩ := hp
        have K := K.step K1 (by decide)
        exact g_lret X hrt dX7_mean_79 (by decide) (by decide) ⟨C, D, F, I, K, trivial⟩
      · skip
        have q5 : ¬ n4 ≤ i36_5 := fun z => q5 ((nI_leI (a := n4) (b := i36_5) (by omega) (by omega)).mpr z)
        refine g_lload_n X dX7_mean_48 rfl (j := 1) rfl ?_
        refine g_aload_n X dX7_mean_49 rfl (j := 2) rfl ?_
        refine i_get X F 0 rfl rfl fk_X7_58 dX7_mean_50 rfl ?_
        refine i_get X F 39 rfl rfl fk_X7_336 dX7_mean_53 rfl ?_
        refine g_iload X dX7_mean_56 (j := 0) rfl ?_
        refine i_lald X F 40 rfl rfl dX7_mean_58 (vp_in_nI (by omega) (by decide)) rfl ?_
        refine Go.genL (fun o8 => ?_)
        refine g_ladd X dX7_mean_59 ?_
        refine Go.genL (fun o9 => ?_)
        refine g_lstore_n X dX7_mean_60 rfl (by decide) (lv2 := [(3, .long o9), (5, .int (nI i36_5)), (0, .ref (a 0)), (1, .int (nI n2)), (2, .int p1)]) rfl ?_
        refine g_iinc X dX7_mean_61 (j := 1) rfl (v := nI (i36_5 + 1)) (nI_1 i36_5) (by decide) (lv2 := [(5, .int (nI (i36_5 + 1))), (3, .long o9), (0, .ref (a 0)), (1, .int (nI n2)), (2, .int p1)]) rfl ?_
        refine g_goto X dX7_mean_64 (tgt := 36) (by decide) ?_
        refine g_lv [0, 1, 2, 3, 4] (lv2 := [(5, .int (nI (i36_5 + 1))), (3, .long o9), (0, .ref (a 0)), (1, .int (nI n2)), (2, .int p1)]) rfl ?_
        exact ih36 ((i36_5 + 1), o9) L M C D F I K ⟨by omega, by omega⟩ (by show _ < _; omega)
set_option maxHeartbeats 4000000 in
set_option maxRecDepth 100000 in
theorem s_X7_drawn (l : Launch) (G : va_G) {cy : Nat → ClassId} {L : List Nat} {M : Nat → va_E} {a : Nat → Nat} {act : Nat → Bool} {C0 : Nat → Nat → Int32} {D0 : Nat → Nat → Int64} {R : Nat → Nat → Option Nat} (F : WI L M a act (ent cy a C0 D0 R)) (I : Inv C0) (p0 : Int32) (p1 : Int32)  : MI l G cy yX7_drawn cX7_drawn 4 (some .int) 5 0 0 [.ref (a 0), .int p0, .int p1] L M (fun r L2 M2 => ∃ C2 D2, WI L2 M2 a act (ent cy a C2 D2 R) ∧ Inv C2 ∧ Kp [31, 32, 33, 34, 35, 36] C0 D0 C2 D2 ∧ True) := by
  refine MI.of (own := RX7) rfl (by decide) (Nat.le_of_ble_eq_true rfl) ?_
  intro p e s m below meth c A X hrt hnm
  obtain ⟨C, D, hC0, hD0, F, I, K⟩ : ∃ C D, C = C0 ∧ D = D0 ∧ WI L M a act (ent cy a C D R) ∧ Inv C ∧ Kp [31, 32, 33, 34, 35, 36] C0 D0 C D := ⟨C0, D0, rfl, rfl, F, I, Kp.rf⟩
  refine g_aload_n X dX7_drawn_0 rfl (j := 0) rfl ?_
  refine i_get X F 0 rfl rfl fk_X7_19 dX7_drawn_1 rfl ?_
  refine g_callVI X (s_X2_isTold l G F I  ) lk_X7_198 (F.1 3 rfl).2 (F.1 3 rfl).1 rfl rfl dX7_drawn_4 (Nat.le_of_ble_eq_true rfl) ⟨by decide, by decide⟩ ⟨by decide, by decide⟩ (fun r1 L M hp => ?_)
  obtain ⟨C, D, F, I, K1, hr⟩ := hp
  have K := K.step K1 (by decide)
  rcases hr with rfl | rfl
  · skip
    refine g_if_eq X dX7_drawn_7 (tgt := 24) (by decide) (fun _ => ?_) (fun q => absurd (by decide) q)
    refine g_bipush X dX7_drawn_24 (v := -2) (by decide) ?_
    exact g_iret X hrt dX7_drawn_26 (by decide) (by decide) ⟨C, D, F, I, K, trivial⟩
  · skip
    refine g_if_eq X dX7_drawn_7 (tgt := 24) (by decide) (fun q => absurd q (by decide)) (fun _ => ?_)
    refine g_iload_n X dX7_drawn_10 rfl (j := 1) rfl ?_
    refine g_callSI X (s_X7_isSeed l G F I p0 ) lk_X7_361 rfl rfl dX7_drawn_11 (Nat.le_of_ble_eq_true rfl) ⟨by decide, by decide⟩ ⟨by decide, by decide⟩ (fun r2 L M hp => ?_)
    obtain ⟨C, D, F, I, K1, hr⟩ := hp
    have K := K.step K1 (by decide)
    rcases hr with rfl | rfl
    · skip
      refine g_if_eq X dX7_drawn_14 (tgt := 24) (by decide) (fun _ => ?_) (fun q => absurd (by decide) q)
      refine g_bipush X dX7_drawn_24 (v := -2) (by decide) ?_
      exact g_iret X hrt dX7_drawn_26 (by decide) (by decide) ⟨C, D, F, I, K, trivial⟩
    · skip
      refine g_if_eq X dX7_drawn_14 (tgt := 24) (by decide) (fun q => absurd q (by decide)) (fun _ => ?_)
      refine g_iload_n X dX7_drawn_17 rfl (j := 2) rfl ?_
      refine g_callSI X (s_X7_isEither l G F I p1 ) lk_X7_125 rfl rfl dX7_drawn_18 (Nat.le_of_ble_eq_true rfl) ⟨by decide, by decide⟩ ⟨by decide, by decide⟩ (fun r3 L M hp => ?_)
      obtain ⟨C, D, F, I, K1, hr⟩ := hp
      have K := K.step K1 (by decide)
      rcases hr with rfl | rfl
      · skip
        refine g_if_ne X dX7_drawn_21 (tgt := 27) (by decide) (fun q => absurd (by decide) q) (fun _ => ?_)
        refine g_bipush X dX7_drawn_24 (v := -2) (by decide) ?_
        exact g_iret X hrt dX7_drawn_26 (by decide) (by decide) ⟨C, D, F, I, K, trivial⟩
      · skip
        refine g_if_ne X dX7_drawn_21 (tgt := 27) (by decide) (fun _ => ?_) (fun q => absurd q (by decide))
        refine g_aload_n X dX7_drawn_27 rfl (j := 0) rfl ?_
        refine i_get X F 0 rfl rfl fk_X7_58 dX7_drawn_28 rfl ?_
        refine g_iload_n X dX7_drawn_31 rfl (j := 1) rfl ?_
        refine g_i2l X dX7_drawn_32 rfl ?_
        refine g_callVI X (s_X1_drawnFrom l G F I ((Int32.toInt64 p0)) ) lk_X7_364 (F.1 39 rfl).2 (F.1 39 rfl).1 rfl rfl dX7_drawn_33 (Nat.le_of_ble_eq_true rfl) ⟨by decide, by decide⟩ ⟨by decide, by decide⟩ (fun r4 L M hp => ?_)
        obtain ⟨C, D, F, I, K1, hr⟩ := hp
        have K := K.step K1 (by decide)
        refine g_istore_n X dX7_drawn_36 rfl (by decide) (lv2 := [(3, .int r4), (0, .ref (a 0)), (1, .int p0), (2, .int p1)]) rfl ?_
        refine g_iload_n X dX7_drawn_37 rfl (j := 3) rfl ?_
        refine g_if_ne X dX7_drawn_38 (tgt := 45) (by decide) (fun q5 => ?_) (fun q5 => ?_)
        · skip
          refine g_aload_n X dX7_drawn_45 rfl (j := 1) rfl ?_
          refine g_iload_n X dX7_drawn_46 rfl (j := 0) rfl ?_
          refine g_callVI X (s_X7_insideByFog l G F I r4 ) lk_X7_368 (F.1 0 rfl).2 (F.1 0 rfl).1 rfl rfl dX7_drawn_47 (Nat.le_of_ble_eq_true rfl) ⟨by decide, by decide⟩ ⟨by decide, by decide⟩ (fun r6 L M hp => ?_)
          obtain ⟨C, D, F, I, K1, hr⟩ := hp
          have K := K.step K1 (by decide)
          exact g_iret X hrt dX7_drawn_50 (by decide) (by decide) ⟨C, D, F, I, K, trivial⟩
        · skip
          subst q5
          refine g_iload_n X dX7_drawn_41 rfl (j := 0) rfl ?_
          refine g_goto X dX7_drawn_42 (tgt := 50) (by decide) ?_
          exact g_iret X hrt dX7_drawn_50 (by decide) (by decide) ⟨C, D, F, I, K, trivial⟩
set_option maxHeartbeats 4000000 in
set_option maxRecDepth 100000 in
theorem s_X7_luck (l : Launch) (G : va_G) {cy : Nat → ClassId} {L : List Nat} {M : Nat → va_E} {a : Nat → Nat} {act : Nat → Bool} {C0 : Nat → Nat → Int32} {D0 : Nat → Nat → Int64} {R : Nat → Nat → Option Nat} (F : WI L M a act (ent cy a C0 D0 R)) (I : Inv C0) (p0 : Int32) (p1 : Int32) (p2 : Int32)  : MI l G cy yX7_luck cX7_luck 6 (some .int) 5 0 0 [.ref (a 0), .int p0, .int p1, .int p2] L M (fun r L2 M2 => ∃ C2 D2, WI L2 M2 a act (ent cy a C2 D2 R) ∧ Inv C2 ∧ Kp [31, 32, 33, 34, 35, 36] C0 D0 C2 D2 ∧ True) := by
  refine MI.of (own := RX7) rfl (by decide) (Nat.le_of_ble_eq_true rfl) ?_
  intro p e s m below meth c A X hrt hnm
  obtain ⟨C, D, hC0, hD0, F, I, K⟩ : ∃ C D, C = C0 ∧ D = D0 ∧ WI L M a act (ent cy a C D R) ∧ Inv C ∧ Kp [31, 32, 33, 34, 35, 36] C0 D0 C D := ⟨C0, D0, rfl, rfl, F, I, Kp.rf⟩
  refine g_iload_n X dX7_luck_0 rfl (j := 1) rfl ?_
  refine g_callSI X (s_X7_isSeed l G F I p0 ) lk_X7_361 rfl rfl dX7_luck_1 (Nat.le_of_ble_eq_true rfl) ⟨by decide, by decide⟩ ⟨by decide, by decide⟩ (fun r1 L M hp => ?_)
  obtain ⟨C, D, F, I, K1, hr⟩ := hp
  have K := K.step K1 (by decide)
  rcases hr with rfl | rfl
  · skip
    refine g_if_eq X dX7_luck_4 (tgt := 25) (by decide) (fun _ => ?_) (fun q => absurd (by decide) q)
    refine g_bipush X dX7_luck_25 (v := -2) (by decide) ?_
    exact g_iret X hrt dX7_luck_27 (by decide) (by decide) ⟨C, D, F, I, K, trivial⟩
  · skip
    refine g_if_eq X dX7_luck_4 (tgt := 25) (by decide) (fun q => absurd q (by decide)) (fun _ => ?_)
    refine g_iload_n X dX7_luck_7 rfl (j := 2) rfl ?_
    refine g_callSI X (s_X7_isFewInARow l G F I p1 ) lk_X7_246 rfl rfl dX7_luck_8 (Nat.le_of_ble_eq_true rfl) ⟨by decide, by decide⟩ ⟨by decide, by decide⟩ (fun r2 L M hp => ?_)
    obtain ⟨C, D, F, I, K1, hr⟩ := hp
    have K := K.step K1 (by decide)
    rcases hr with rfl | ⟨rfl, n3, hn3a, hn3b, en3⟩
    · skip
      refine g_if_eq X dX7_luck_11 (tgt := 25) (by decide) (fun _ => ?_) (fun q => absurd (by decide) q)
      refine g_bipush X dX7_luck_25 (v := -2) (by decide) ?_
      exact g_iret X hrt dX7_luck_27 (by decide) (by decide) ⟨C, D, F, I, K, trivial⟩
    · skip
      subst en3
      refine g_if_eq X dX7_luck_11 (tgt := 25) (by decide) (fun q => absurd q (by decide)) (fun _ => ?_)
      refine g_aload_n X dX7_luck_14 rfl (j := 0) rfl ?_
      refine i_get X F 0 rfl rfl fk_X7_19 dX7_luck_15 rfl ?_
      refine g_iload_n X dX7_luck_18 rfl (j := 3) rfl ?_
      refine g_callVI X (s_X2_hasWalker l G F I p2 ) lk_X7_122 (F.1 3 rfl).2 (F.1 3 rfl).1 rfl rfl dX7_luck_19 (Nat.le_of_ble_eq_true rfl) ⟨by decide, by decide⟩ ⟨by decide, by decide⟩ (fun r4 L M hp => ?_)
      obtain ⟨C, D, F, I, K1, hr⟩ := hp
      have K := K.step K1 (by decide)
      rcases hr with rfl | ⟨rfl, n5, hn5a, hn5b, en5⟩
      · skip
        refine g_if_ne X dX7_luck_22 (tgt := 28) (by decide) (fun q => absurd (by decide) q) (fun _ => ?_)
        refine g_bipush X dX7_luck_25 (v := -2) (by decide) ?_
        exact g_iret X hrt dX7_luck_27 (by decide) (by decide) ⟨C, D, F, I, K, trivial⟩
      · skip
        subst en5
        refine g_if_ne X dX7_luck_22 (tgt := 28) (by decide) (fun _ => ?_) (fun q => absurd q (by decide))
        refine g_iconst X dX7_luck_28 (v := 0) (by decide) ?_
        refine g_istore X dX7_luck_29 (by decide) (lv2 := [(4, .int 0), (0, .ref (a 0)), (1, .int p0), (2, .int (nI n3)), (3, .int (nI n5))]) rfl ?_
        refine g_iconst X dX7_luck_31 (v := 0) (by decide) ?_
        refine g_istore X dX7_luck_32 (by decide) (lv2 := [(5, .int 0), (4, .int 0), (0, .ref (a 0)), (1, .int p0), (2, .int (nI n3)), (3, .int (nI n5))]) rfl ?_
        refine g_lv [0, 1, 2, 3, 4, 5] (lv2 := [(5, .int 0), (4, .int 0), (0, .ref (a 0)), (1, .int p0), (2, .int (nI n3)), (3, .int (nI n5))]) rfl ?_
        refine i_loop (mods := [31, 32, 33, 34, 35, 36]) (fun x : Nat × Int32 => 20 - x.1) (fun x => [(5, .int (nI (x.1))), (4, .int (x.2)), (0, .ref (a 0)), (1, .int p0), (2, .int (nI n3)), (3, .int (nI n5))]) (fun x C => 0 ≤ x.1 ∧ x.1 ≤ 20) (fun x L M C D F I K hP ih34 => ?_) ((0, 0) : Nat × Int32) F I K ⟨by show _ ≤ _; omega, by show _ ≤ _; omega⟩
        rcases x with ⟨i34_5, v34_4⟩
        obtain ⟨hi34_5a, hi34_5b⟩ := hP
        refine g_lv [0, 1, 2, 3, 4, 5] (lv2 := [(5, .int (nI i34_5)), (4, .int v34_4), (0, .ref (a 0)), (1, .int p0), (2, .int (nI n3)), (3, .int (nI n5))]) rfl ?_
        refine g_iload X dX7_luck_34 (j := 0) rfl ?_
        refine g_iload_n X dX7_luck_36 rfl (j := 4) rfl ?_
        refine g_icmp_ge X dX7_luck_37 (tgt := 72) (by decide) (fun q6 => ?_) (fun q6 => ?_)
        · skip
          have q6 : n3 ≤ i34_5 := (nI_leI (a := n3) (b := i34_5) (by omega) (by omega)).mp q6
          refine g_iload X dX7_luck_72 (j := 1) rfl ?_
          exact g_iret X hrt dX7_luck_74 (by decide) (by decide) ⟨C, D, F, I, K, trivial⟩
        · skip
          have q6 : ¬ n3 ≤ i34_5 := fun z => q6 ((nI_leI (a := n3) (b := i34_5) (by omega) (by omega)).mpr z)
          refine g_iload X dX7_luck_40 (j := 1) rfl ?_
          refine g_aload_n X dX7_luck_42 rfl (j := 2) rfl ?_
          refine g_aload_n X dX7_luck_43 rfl (j := 2) rfl ?_
          refine i_get X F 0 rfl rfl fk_X7_58 dX7_luck_44 rfl ?_
          refine g_iload_n X dX7_luck_47 rfl (j := 3) rfl ?_
          refine g_i2l X dX7_luck_48 rfl ?_
          refine g_iload X dX7_luck_49 (j := 0) rfl ?_
          refine g_i2l X dX7_luck_51 rfl ?_
          refine g_ladd X dX7_luck_52 ?_
          refine Go.genL (fun o7 => ?_)
          refine g_callVI X (s_X1_drawnFrom l G F I o7 ) lk_X7_364 (F.1 39 rfl).2 (F.1 39 rfl).1 rfl rfl dX7_luck_53 (Nat.le_of_ble_eq_true rfl) ⟨by decide, by decide⟩ ⟨by decide, by decide⟩ (fun r8 L M hp => ?_)
          obtain ⟨C, D, F, I, K1, hr⟩ := hp
          have K := K.step K1 (by decide)
          refine g_callVI X (s_X7_insideByFog l G F I r8 ) lk_X7_368 (F.1 0 rfl).2 (F.1 0 rfl).1 rfl rfl dX7_luck_56 (Nat.le_of_ble_eq_true rfl) ⟨by decide, by decide⟩ ⟨by decide, by decide⟩ (fun r9 L M hp => ?_)
          obtain ⟨C, D, F, I, K1, hr⟩ := hp
          have K := K.step K1 (by decide)
          refine g_iload_n X dX7_luck_59 rfl (j := 5) rfl ?_
          refine g_ishr X dX7_luck_60 ?_
          refine Go.gen (fun o10 => ?_)
          refine g_iconst X dX7_luck_61 (v := 1) (by decide) ?_
          refine g_iand X dX7_luck_62 ?_
          refine Go.gen (fun o11 => ?_)
          refine g_iadd X dX7_luck_63 ?_
          refine Go.gen (fun o12 => ?_)
          refine g_istore X dX7_luck_64 (by decide) (lv2 := [(4, .int o12), (5, .int (nI i34_5)), (0, .ref (a 0)), (1, .int p0), (2, .int (nI n3)), (3, .int (nI n5))]) rfl ?_
          refine g_iinc X dX7_luck_66 (j := 1) rfl (v := nI (i34_5 + 1)) (nI_1 i34_5) (by decide) (lv2 := [(5, .int (nI (i34_5 + 1))), (4, .int o12), (0, .ref (a 0)), (1, .int p0), (2, .int (nI n3)), (3, .int (nI n5))]) rfl ?_
          refine g_goto X dX7_luck_69 (tgt := 34) (by decide) ?_
          refine g_lv [0, 1, 2, 3, 4, 5] (lv2 := [(5, .int (nI (i34_5 + 1))), (4, .int o12), (0, .ref (a 0)), (1, .int p0), (2, .int (nI n3)), (3, .int (nI n5))]) rfl ?_
          exact ih34 ((i34_5 + 1), o12) L M C D F I K ⟨by omega, by omega⟩ (by show _ < _; omega)
set_option maxHeartbeats 4000000 in
set_option maxRecDepth 100000 in
theorem s_X7_feed (l : Launch) (G : va_G) {cy : Nat → ClassId} {L : List Nat} {M : Nat → va_E} {a : Nat → Nat} {act : Nat → Bool} {C0 : Nat → Nat → Int32} {D0 : Nat → Nat → Int64} {R : Nat → Nat → Option Nat} (F : WI L M a act (ent cy a C0 D0 R)) (I : Inv C0) (p0 : Int32) (p1 : Int32) (p2 : Int32) (p3 : Int32) (p4 : Int32)  : MI l G cy yX7_feed cX7_feed 6 (some .int) 1 0 0 [.ref (a 0), .int p0, .int p1, .int p2, .int p3, .int p4] L M (fun r L2 M2 => ∃ C2 D2, WI L2 M2 a act (ent cy a C2 D2 R) ∧ Inv C2 ∧ Kp [1, 2] C0 D0 C2 D2 ∧ True) := by
  refine MI.of (own := RX7) rfl (by decide) (Nat.le_of_ble_eq_true rfl) ?_
  intro p e s m below meth c A X hrt hnm
  obtain ⟨C, D, hC0, hD0, F, I, K⟩ : ∃ C D, C = C0 ∧ D = D0 ∧ WI L M a act (ent cy a C D R) ∧ Inv C ∧ Kp [1, 2] C0 D0 C D := ⟨C0, D0, rfl, rfl, F, I, Kp.rf⟩
  refine g_aload_n X dX7_feed_0 rfl (j := 0) rfl ?_
  refine i_get X F 0 rfl rfl fk_X7_12 dX7_feed_1 rfl ?_
  obtain ⟨n1, hn1, en1⟩ := rg_nat (I 1 1 (by decide)) (by decide)
  refine i_get X F 1 rfl rfl fk_X7_73 dX7_feed_4 (v := .int (nI n1)) (congrArg (fun z => some (Value.int z)) en1) ?_
  refine g_sipush X dX7_feed_7 (v := 780) (by decide) ?_
  refine g_icmp_le X dX7_feed_10 (tgt := 15) (by decide) (fun q2 => ?_) (fun q2 => ?_)
  · skip
    have q2 : n1 ≤ 780 := (nI_leI (a := n1) (b := 780) (by omega) (by omega)).mp q2
    refine g_aload_n X dX7_feed_15 rfl (j := 0) rfl ?_
    refine i_get X F 0 rfl rfl fk_X7_12 dX7_feed_16 rfl ?_
    refine g_iload_n X dX7_feed_19 rfl (j := 1) rfl ?_
    refine g_callVV X (s_X6_append l G F I p0 ) lk_X7_77 (F.1 1 rfl).2 (F.1 1 rfl).1 rfl rfl dX7_feed_20 (Nat.le_of_ble_eq_true rfl) ⟨by decide, by decide⟩ ⟨by decide, by decide⟩ (fun L M hp => ?_)
    obtain ⟨C, D, F, I, K1, hr⟩ := hp
    have K := K.step K1 (by decide)
    refine g_aload_n X dX7_feed_23 rfl (j := 0) rfl ?_
    refine i_get X F 0 rfl rfl fk_X7_12 dX7_feed_24 rfl ?_
    refine g_iload_n X dX7_feed_27 rfl (j := 2) rfl ?_
    refine g_callVV X (s_X6_append l G F I p1 ) lk_X7_77 (F.1 1 rfl).2 (F.1 1 rfl).1 rfl rfl dX7_feed_28 (Nat.le_of_ble_eq_true rfl) ⟨by decide, by decide⟩ ⟨by decide, by decide⟩ (fun L M hp => ?_)
    obtain ⟨C, D, F, I, K1, hr⟩ := hp
    have K := K.step K1 (by decide)
    refine g_aload_n X dX7_feed_31 rfl (j := 0) rfl ?_
    refine i_get X F 0 rfl rfl fk_X7_12 dX7_feed_32 rfl ?_
    refine g_iload_n X dX7_feed_35 rfl (j := 3) rfl ?_
    refine g_callVV X (s_X6_append l G F I p2 ) lk_X7_77 (F.1 1 rfl).2 (F.1 1 rfl).1 rfl rfl dX7_feed_36 (Nat.le_of_ble_eq_true rfl) ⟨by decide, by decide⟩ ⟨by decide, by decide⟩ (fun L M hp => ?_)
    obtain ⟨C, D, F, I, K1, hr⟩ := hp
    have K := K.step K1 (by decide)
    refine g_aload_n X dX7_feed_39 rfl (j := 0) rfl ?_
    refine i_get X F 0 rfl rfl fk_X7_12 dX7_feed_40 rfl ?_
    refine g_iload X dX7_feed_43 (j := 4) rfl ?_
    refine g_callVV X (s_X6_append l G F I p3 ) lk_X7_77 (F.1 1 rfl).2 (F.1 1 rfl).1 rfl rfl dX7_feed_45 (Nat.le_of_ble_eq_true rfl) ⟨by decide, by decide⟩ ⟨by decide, by decide⟩ (fun L M hp => ?_)
    obtain ⟨C, D, F, I, K1, hr⟩ := hp
    have K := K.step K1 (by decide)
    refine g_aload_n X dX7_feed_48 rfl (j := 0) rfl ?_
    refine i_get X F 0 rfl rfl fk_X7_12 dX7_feed_49 rfl ?_
    refine g_iload X dX7_feed_52 (j := 5) rfl ?_
    refine g_callVV X (s_X6_append l G F I p4 ) lk_X7_77 (F.1 1 rfl).2 (F.1 1 rfl).1 rfl rfl dX7_feed_54 (Nat.le_of_ble_eq_true rfl) ⟨by decide, by decide⟩ ⟨by decide, by decide⟩ (fun L M hp => ?_)
    obtain ⟨C, D, F, I, K1, hr⟩ := hp
    have K := K.step K1 (by decide)
    refine g_aload_n X dX7_feed_57 rfl (j := 0) rfl ?_
    refine i_get X F 0 rfl rfl fk_X7_12 dX7_feed_58 rfl ?_
    obtain ⟨n3, hn3, en3⟩ := rg_nat (I 1 1 (by decide)) (by decide)
    refine i_get X F 1 rfl rfl fk_X7_73 dX7_feed_61 (v := .int (nI n3)) (congrArg (fun z => some (Value.int z)) en3) ?_
    exact g_iret X hrt dX7_feed_64 (by decide) (by decide) ⟨C, D, F, I, K, trivial⟩
  · skip
    have q2 : ¬ n1 ≤ 780 := fun z => q2 ((nI_leI (a := n1) (b := 780) (by omega) (by omega)).mpr z)
    refine g_iconst X dX7_feed_13 (v := -1) (by decide) ?_
    exact g_iret X hrt dX7_feed_14 (by decide) (by decide) ⟨C, D, F, I, K, trivial⟩
set_option maxHeartbeats 4000000 in
set_option maxRecDepth 100000 in
theorem s_X7_end (l : Launch) (G : va_G) {cy : Nat → ClassId} {L : List Nat} {M : Nat → va_E} {a : Nat → Nat} {act : Nat → Bool} {C0 : Nat → Nat → Int32} {D0 : Nat → Nat → Int64} {R : Nat → Nat → Option Nat} (F : WI L M a act (ent cy a C0 D0 R)) (I : Inv C0) (p0 : Int32)  : MI l G cy yX7_end cX7_end 2 (some .int) 0 0 0 [.ref (a 0), .int p0] L M (fun r L2 M2 => ∃ C2 D2, WI L2 M2 a act (ent cy a C2 D2 R) ∧ Inv C2 ∧ Kp [1] C0 D0 C2 D2 ∧ True) := by
  refine MI.of (own := RX7) rfl (by decide) (Nat.le_of_ble_eq_true rfl) ?_
  intro p e s m below meth c A X hrt hnm
  obtain ⟨C, D, hC0, hD0, F, I, K⟩ : ∃ C D, C = C0 ∧ D = D0 ∧ WI L M a act (ent cy a C D R) ∧ Inv C ∧ Kp [1] C0 D0 C D := ⟨C0, D0, rfl, rfl, F, I, Kp.rf⟩
  refine g_iload_n X dX7_end_0 rfl (j := 1) rfl ?_
  refine g_if_lt X dX7_end_1 (tgt := 15) (by decide) (fun q1 => ?_) (fun q1 => ?_)
  · skip
    have q1t : p0.toInt < (0 : Int32).toInt := Int32.lt_iff_toInt_lt.mp q1
    have q1k : (0 : Int32).toInt = 0 := (by decide)
    have q1b := Int32.toInt_lt p0
    refine g_iconst X dX7_end_15 (v := -1) (by decide) ?_
    exact g_iret X hrt dX7_end_16 (by decide) (by decide) ⟨C, D, F, I, K, trivial⟩
  · skip
    have q1t : ¬ p0.toInt < (0 : Int32).toInt := fun z => q1 (Int32.lt_iff_toInt_lt.mpr z)
    have q1k : (0 : Int32).toInt = 0 := (by decide)
    have q1b := Int32.toInt_lt p0
    obtain ⟨n2, hn2, rfl⟩ := nI_of (x := p0) (fun z => by have z2 := Int32.lt_iff_toInt_lt.mp z; have z3 : (0 : Int32).toInt = 0 := (by decide); omega)
    rw [nI_toInt (by omega)] at q1t
    have tn2 := nI_toInt (n := n2) (by omega)
    refine g_iload_n X dX7_end_4 rfl (j := 1) rfl ?_
    refine g_aload_n X dX7_end_5 rfl (j := 0) rfl ?_
    refine i_get X F 0 rfl rfl fk_X7_12 dX7_end_6 rfl ?_
    obtain ⟨n3, hn3, en3⟩ := rg_nat (I 1 1 (by decide)) (by decide)
    refine i_get X F 1 rfl rfl fk_X7_73 dX7_end_9 (v := .int (nI n3)) (congrArg (fun z => some (Value.int z)) en3) ?_
    refine g_icmp_le X dX7_end_12 (tgt := 17) (by decide) (fun q4 => ?_) (fun q4 => ?_)
    · skip
      have q4 : n2 ≤ n3 := (nI_leI (a := n2) (b := n3) (by omega) (by omega)).mp q4
      refine g_aload_n X dX7_end_17 rfl (j := 0) rfl ?_
      refine i_get X F 0 rfl rfl fk_X7_12 dX7_end_18 rfl ?_
      refine g_iload_n X dX7_end_21 rfl (j := 1) rfl ?_
      refine i_put X F I 1 rfl rfl rfl fk_X7_73 dX7_end_22 rfl rfl (Nat.le_of_ble_eq_true rfl) (fun _ => (rg_of (n := n2) (by omega) (by omega) (by omega))) (fun M C F I K1 hC => ?_)
      have K := K.step K1 (by decide)
      refine g_iload_n X dX7_end_25 rfl (j := 1) rfl ?_
      exact g_iret X hrt dX7_end_26 (by decide) (by decide) ⟨C, D, F, I, K, trivial⟩
    · skip
      have q4 : ¬ n2 ≤ n3 := fun z => q4 ((nI_leI (a := n2) (b := n3) (by omega) (by omega)).mpr z)
      refine g_iconst X dX7_end_15 (v := -1) (by decide) ?_
      exact g_iret X hrt dX7_end_16 (by decide) (by decide) ⟨C, D, F, I, K, trivial⟩
